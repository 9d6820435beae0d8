theorem dX0_init_0 : decode cX0_init 0 = .ok (.aload_n 0, 1) := by decide +kernel
theorem dX0_init_1 : decode cX0_init 1 = .ok (.invokespecial 3, 3) := by decide +kernel
theorem dX0_init_4 : decode cX0_init 4 = .ok (.aload_n 0, 1) := by decide +kernel
theorem dX0_init_5 : decode cX0_init 5 = .ok (.iconst 5, 1) := by decide +kernel
theorem dX0_init_6 : decode cX0_init 6 = .ok (.newarray .int, 2) := by decide +kernel
theorem dX0_init_8 : decode cX0_init 8 = .ok (.putfield 9, 3) := by decide +kernel
theorem dX0_init_11 : decode cX0_init 11 = .ok (.aload_n 0, 1) := by decide +kernel
theorem dX0_init_12 : decode cX0_init 12 = .ok (.iconst 5, 1) := by decide +kernel
theorem dX0_init_13 : decode cX0_init 13 = .ok (.newarray .int, 2) := by decide +kernel
theorem dX0_init_15 : decode cX0_init 15 = .ok (.putfield 15, 3) := by decide +kernel
theorem dX0_init_18 : decode cX0_init 18 = .ok (.aload_n 0, 1) := by decide +kernel
theorem dX0_init_19 : decode cX0_init 19 = .ok (.iconst 5, 1) := by decide +kernel
theorem dX0_init_20 : decode cX0_init 20 = .ok (.newarray .boolean, 2) := by decide +kernel
theorem dX0_init_22 : decode cX0_init 22 = .ok (.putfield 18, 3) := by decide +kernel
theorem dX0_init_25 : decode cX0_init 25 = .ok (.return_, 1) := by decide +kernel
theorem dX0_begin_0 : decode cX0_begin 0 = .ok (.aload_n 0, 1) := by decide +kernel
theorem dX0_begin_1 : decode cX0_begin 1 = .ok (.iconst 0, 1) := by decide +kernel
theorem dX0_begin_2 : decode cX0_begin 2 = .ok (.putfield 22, 3) := by decide +kernel
theorem dX0_begin_5 : decode cX0_begin 5 = .ok (.aload_n 0, 1) := by decide +kernel
theorem dX0_begin_6 : decode cX0_begin 6 = .ok (.iconst 0, 1) := by decide +kernel
theorem dX0_begin_7 : decode cX0_begin 7 = .ok (.iload_n 1, 1) := by decide +kernel
theorem dX0_begin_8 : decode cX0_begin 8 = .ok (.invokevirtual 26, 3) := by decide +kernel
theorem dX0_begin_11 : decode cX0_begin 11 = .ok (.aload_n 0, 1) := by decide +kernel
theorem dX0_begin_12 : decode cX0_begin 12 = .ok (.bipush (-5), 2) := by decide +kernel
theorem dX0_begin_14 : decode cX0_begin 14 = .ok (.putfield 30, 3) := by decide +kernel
theorem dX0_begin_17 : decode cX0_begin 17 = .ok (.aload_n 0, 1) := by decide +kernel
theorem dX0_begin_18 : decode cX0_begin 18 = .ok (.bipush (-5), 2) := by decide +kernel
theorem dX0_begin_20 : decode cX0_begin 20 = .ok (.putfield 33, 3) := by decide +kernel
theorem dX0_begin_23 : decode cX0_begin 23 = .ok (.aload_n 0, 1) := by decide +kernel
theorem dX0_begin_24 : decode cX0_begin 24 = .ok (.bipush (-5), 2) := by decide +kernel
theorem dX0_begin_26 : decode cX0_begin 26 = .ok (.putfield 36, 3) := by decide +kernel
theorem dX0_begin_29 : decode cX0_begin 29 = .ok (.aload_n 0, 1) := by decide +kernel
theorem dX0_begin_30 : decode cX0_begin 30 = .ok (.bipush (-5), 2) := by decide +kernel
theorem dX0_begin_32 : decode cX0_begin 32 = .ok (.putfield 39, 3) := by decide +kernel
theorem dX0_begin_35 : decode cX0_begin 35 = .ok (.return_, 1) := by decide +kernel
theorem dX0_addAxle_0 : decode cX0_addAxle 0 = .ok (.aload_n 0, 1) := by decide +kernel
theorem dX0_addAxle_1 : decode cX0_addAxle 1 = .ok (.getfield 22, 3) := by decide +kernel
theorem dX0_addAxle_4 : decode cX0_addAxle 4 = .ok (.iconst 5, 1) := by decide +kernel
theorem dX0_addAxle_5 : decode cX0_addAxle 5 = .ok (.if_icmp .lt 4, 3) := by decide +kernel
theorem dX0_addAxle_8 : decode cX0_addAxle 8 = .ok (.return_, 1) := by decide +kernel
theorem dX0_addAxle_9 : decode cX0_addAxle 9 = .ok (.aload_n 0, 1) := by decide +kernel
theorem dX0_addAxle_10 : decode cX0_addAxle 10 = .ok (.getfield 9, 3) := by decide +kernel
theorem dX0_addAxle_13 : decode cX0_addAxle 13 = .ok (.aload_n 0, 1) := by decide +kernel
theorem dX0_addAxle_14 : decode cX0_addAxle 14 = .ok (.getfield 22, 3) := by decide +kernel
theorem dX0_addAxle_17 : decode cX0_addAxle 17 = .ok (.iload_n 2, 1) := by decide +kernel
theorem dX0_addAxle_18 : decode cX0_addAxle 18 = .ok (.iastore, 1) := by decide +kernel
theorem dX0_addAxle_19 : decode cX0_addAxle 19 = .ok (.aload_n 0, 1) := by decide +kernel
theorem dX0_addAxle_20 : decode cX0_addAxle 20 = .ok (.getfield 15, 3) := by decide +kernel
theorem dX0_addAxle_23 : decode cX0_addAxle 23 = .ok (.aload_n 0, 1) := by decide +kernel
theorem dX0_addAxle_24 : decode cX0_addAxle 24 = .ok (.getfield 22, 3) := by decide +kernel
theorem dX0_addAxle_27 : decode cX0_addAxle 27 = .ok (.iload_n 1, 1) := by decide +kernel
theorem dX0_addAxle_28 : decode cX0_addAxle 28 = .ok (.iastore, 1) := by decide +kernel
theorem dX0_addAxle_29 : decode cX0_addAxle 29 = .ok (.aload_n 0, 1) := by decide +kernel
theorem dX0_addAxle_30 : decode cX0_addAxle 30 = .ok (.getfield 18, 3) := by decide +kernel
theorem dX0_addAxle_33 : decode cX0_addAxle 33 = .ok (.aload_n 0, 1) := by decide +kernel
theorem dX0_addAxle_34 : decode cX0_addAxle 34 = .ok (.getfield 22, 3) := by decide +kernel
theorem dX0_addAxle_37 : decode cX0_addAxle 37 = .ok (.iconst 0, 1) := by decide +kernel
theorem dX0_addAxle_38 : decode cX0_addAxle 38 = .ok (.bastore, 1) := by decide +kernel
theorem dX0_addAxle_39 : decode cX0_addAxle 39 = .ok (.aload_n 0, 1) := by decide +kernel
theorem dX0_addAxle_40 : decode cX0_addAxle 40 = .ok (.dup, 1) := by decide +kernel
theorem dX0_addAxle_41 : decode cX0_addAxle 41 = .ok (.getfield 22, 3) := by decide +kernel
theorem dX0_addAxle_44 : decode cX0_addAxle 44 = .ok (.iconst 1, 1) := by decide +kernel
theorem dX0_addAxle_45 : decode cX0_addAxle 45 = .ok (.iadd, 1) := by decide +kernel
theorem dX0_addAxle_46 : decode cX0_addAxle 46 = .ok (.putfield 22, 3) := by decide +kernel
theorem dX0_addAxle_49 : decode cX0_addAxle 49 = .ok (.return_, 1) := by decide +kernel
theorem dX0_hasAxle_0 : decode cX0_hasAxle 0 = .ok (.iload_n 1, 1) := by decide +kernel
theorem dX0_hasAxle_1 : decode cX0_hasAxle 1 = .ok (.ifCond .lt 15, 3) := by decide +kernel
theorem dX0_hasAxle_4 : decode cX0_hasAxle 4 = .ok (.iload_n 1, 1) := by decide +kernel
theorem dX0_hasAxle_5 : decode cX0_hasAxle 5 = .ok (.aload_n 0, 1) := by decide +kernel
theorem dX0_hasAxle_6 : decode cX0_hasAxle 6 = .ok (.getfield 22, 3) := by decide +kernel
theorem dX0_hasAxle_9 : decode cX0_hasAxle 9 = .ok (.if_icmp .ge 7, 3) := by decide +kernel
theorem dX0_hasAxle_12 : decode cX0_hasAxle 12 = .ok (.iconst 1, 1) := by decide +kernel
theorem dX0_hasAxle_13 : decode cX0_hasAxle 13 = .ok (.goto 4, 3) := by decide +kernel
theorem dX0_hasAxle_16 : decode cX0_hasAxle 16 = .ok (.iconst 0, 1) := by decide +kernel
theorem dX0_hasAxle_17 : decode cX0_hasAxle 17 = .ok (.ireturn, 1) := by decide +kernel
theorem dX0_downCount_0 : decode cX0_downCount 0 = .ok (.iconst 0, 1) := by decide +kernel
theorem dX0_downCount_1 : decode cX0_downCount 1 = .ok (.istore_n 1, 1) := by decide +kernel
theorem dX0_downCount_2 : decode cX0_downCount 2 = .ok (.iconst 0, 1) := by decide +kernel
theorem dX0_downCount_3 : decode cX0_downCount 3 = .ok (.istore_n 2, 1) := by decide +kernel
theorem dX0_downCount_4 : decode cX0_downCount 4 = .ok (.iload_n 2, 1) := by decide +kernel
theorem dX0_downCount_5 : decode cX0_downCount 5 = .ok (.aload_n 0, 1) := by decide +kernel
theorem dX0_downCount_6 : decode cX0_downCount 6 = .ok (.getfield 22, 3) := by decide +kernel
theorem dX0_downCount_9 : decode cX0_downCount 9 = .ok (.if_icmp .ge 26, 3) := by decide +kernel
theorem dX0_downCount_12 : decode cX0_downCount 12 = .ok (.iload_n 1, 1) := by decide +kernel
theorem dX0_downCount_13 : decode cX0_downCount 13 = .ok (.aload_n 0, 1) := by decide +kernel
theorem dX0_downCount_14 : decode cX0_downCount 14 = .ok (.getfield 18, 3) := by decide +kernel
theorem dX0_downCount_17 : decode cX0_downCount 17 = .ok (.iload_n 2, 1) := by decide +kernel
theorem dX0_downCount_18 : decode cX0_downCount 18 = .ok (.baload, 1) := by decide +kernel
theorem dX0_downCount_19 : decode cX0_downCount 19 = .ok (.ifCond .eq 7, 3) := by decide +kernel
theorem dX0_downCount_22 : decode cX0_downCount 22 = .ok (.iconst 0, 1) := by decide +kernel
theorem dX0_downCount_23 : decode cX0_downCount 23 = .ok (.goto 4, 3) := by decide +kernel
theorem dX0_downCount_26 : decode cX0_downCount 26 = .ok (.iconst 1, 1) := by decide +kernel
theorem dX0_downCount_27 : decode cX0_downCount 27 = .ok (.iadd, 1) := by decide +kernel
theorem dX0_downCount_28 : decode cX0_downCount 28 = .ok (.istore_n 1, 1) := by decide +kernel
theorem dX0_downCount_29 : decode cX0_downCount 29 = .ok (.iinc 2 1, 3) := by decide +kernel
theorem dX0_downCount_32 : decode cX0_downCount 32 = .ok (.goto (-28), 3) := by decide +kernel
theorem dX0_downCount_35 : decode cX0_downCount 35 = .ok (.iload_n 1, 1) := by decide +kernel
theorem dX0_downCount_36 : decode cX0_downCount 36 = .ok (.ireturn, 1) := by decide +kernel
theorem dX0_wholeWeight_0 : decode cX0_wholeWeight 0 = .ok (.iconst 0, 1) := by decide +kernel
theorem dX0_wholeWeight_1 : decode cX0_wholeWeight 1 = .ok (.istore_n 1, 1) := by decide +kernel
theorem dX0_wholeWeight_2 : decode cX0_wholeWeight 2 = .ok (.iconst 0, 1) := by decide +kernel
theorem dX0_wholeWeight_3 : decode cX0_wholeWeight 3 = .ok (.istore_n 2, 1) := by decide +kernel
theorem dX0_wholeWeight_4 : decode cX0_wholeWeight 4 = .ok (.iload_n 2, 1) := by decide +kernel
theorem dX0_wholeWeight_5 : decode cX0_wholeWeight 5 = .ok (.aload_n 0, 1) := by decide +kernel
theorem dX0_wholeWeight_6 : decode cX0_wholeWeight 6 = .ok (.getfield 22, 3) := by decide +kernel
theorem dX0_wholeWeight_9 : decode cX0_wholeWeight 9 = .ok (.if_icmp .ge 18, 3) := by decide +kernel
theorem dX0_wholeWeight_12 : decode cX0_wholeWeight 12 = .ok (.iload_n 1, 1) := by decide +kernel
theorem dX0_wholeWeight_13 : decode cX0_wholeWeight 13 = .ok (.aload_n 0, 1) := by decide +kernel
theorem dX0_wholeWeight_14 : decode cX0_wholeWeight 14 = .ok (.getfield 9, 3) := by decide +kernel
theorem dX0_wholeWeight_17 : decode cX0_wholeWeight 17 = .ok (.iload_n 2, 1) := by decide +kernel
theorem dX0_wholeWeight_18 : decode cX0_wholeWeight 18 = .ok (.iaload, 1) := by decide +kernel
theorem dX0_wholeWeight_19 : decode cX0_wholeWeight 19 = .ok (.iadd, 1) := by decide +kernel
theorem dX0_wholeWeight_20 : decode cX0_wholeWeight 20 = .ok (.istore_n 1, 1) := by decide +kernel
theorem dX0_wholeWeight_21 : decode cX0_wholeWeight 21 = .ok (.iinc 2 1, 3) := by decide +kernel
theorem dX0_wholeWeight_24 : decode cX0_wholeWeight 24 = .ok (.goto (-20), 3) := by decide +kernel
theorem dX0_wholeWeight_27 : decode cX0_wholeWeight 27 = .ok (.iload_n 1, 1) := by decide +kernel
theorem dX0_wholeWeight_28 : decode cX0_wholeWeight 28 = .ok (.ireturn, 1) := by decide +kernel
theorem dX0_wholeLength_0 : decode cX0_wholeLength 0 = .ok (.iconst 0, 1) := by decide +kernel
theorem dX0_wholeLength_1 : decode cX0_wholeLength 1 = .ok (.istore_n 1, 1) := by decide +kernel
theorem dX0_wholeLength_2 : decode cX0_wholeLength 2 = .ok (.iconst 0, 1) := by decide +kernel
theorem dX0_wholeLength_3 : decode cX0_wholeLength 3 = .ok (.istore_n 2, 1) := by decide +kernel
theorem dX0_wholeLength_4 : decode cX0_wholeLength 4 = .ok (.iload_n 2, 1) := by decide +kernel
theorem dX0_wholeLength_5 : decode cX0_wholeLength 5 = .ok (.aload_n 0, 1) := by decide +kernel
theorem dX0_wholeLength_6 : decode cX0_wholeLength 6 = .ok (.getfield 22, 3) := by decide +kernel
theorem dX0_wholeLength_9 : decode cX0_wholeLength 9 = .ok (.if_icmp .ge 18, 3) := by decide +kernel
theorem dX0_wholeLength_12 : decode cX0_wholeLength 12 = .ok (.iload_n 1, 1) := by decide +kernel
theorem dX0_wholeLength_13 : decode cX0_wholeLength 13 = .ok (.aload_n 0, 1) := by decide +kernel
theorem dX0_wholeLength_14 : decode cX0_wholeLength 14 = .ok (.getfield 15, 3) := by decide +kernel
theorem dX0_wholeLength_17 : decode cX0_wholeLength 17 = .ok (.iload_n 2, 1) := by decide +kernel
theorem dX0_wholeLength_18 : decode cX0_wholeLength 18 = .ok (.iaload, 1) := by decide +kernel
theorem dX0_wholeLength_19 : decode cX0_wholeLength 19 = .ok (.iadd, 1) := by decide +kernel
theorem dX0_wholeLength_20 : decode cX0_wholeLength 20 = .ok (.istore_n 1, 1) := by decide +kernel
theorem dX0_wholeLength_21 : decode cX0_wholeLength 21 = .ok (.iinc 2 1, 3) := by decide +kernel
theorem dX0_wholeLength_24 : decode cX0_wholeLength 24 = .ok (.goto (-20), 3) := by decide +kernel
theorem dX0_wholeLength_27 : decode cX0_wholeLength 27 = .ok (.iload_n 1, 1) := by decide +kernel
theorem dX0_wholeLength_28 : decode cX0_wholeLength 28 = .ok (.ireturn, 1) := by decide +kernel
theorem dX0_netAndBase_0 : decode cX0_netAndBase 0 = .ok (.aload_n 0, 1) := by decide +kernel
theorem dX0_netAndBase_1 : decode cX0_netAndBase 1 = .ok (.getfield 30, 3) := by decide +kernel
theorem dX0_netAndBase_4 : decode cX0_netAndBase 4 = .ok (.bipush (-5), 2) := by decide +kernel
theorem dX0_netAndBase_6 : decode cX0_netAndBase 6 = .ok (.if_icmp .eq 12, 3) := by decide +kernel
theorem dX0_netAndBase_9 : decode cX0_netAndBase 9 = .ok (.aload_n 0, 1) := by decide +kernel
theorem dX0_netAndBase_10 : decode cX0_netAndBase 10 = .ok (.getfield 33, 3) := by decide +kernel
theorem dX0_netAndBase_13 : decode cX0_netAndBase 13 = .ok (.bipush (-5), 2) := by decide +kernel
theorem dX0_netAndBase_15 : decode cX0_netAndBase 15 = .ok (.if_icmp .ne 6, 3) := by decide +kernel
theorem dX0_netAndBase_18 : decode cX0_netAndBase 18 = .ok (.bipush (-5), 2) := by decide +kernel
theorem dX0_netAndBase_20 : decode cX0_netAndBase 20 = .ok (.ireturn, 1) := by decide +kernel
theorem dX0_netAndBase_21 : decode cX0_netAndBase 21 = .ok (.aload_n 0, 1) := by decide +kernel
theorem dX0_netAndBase_22 : decode cX0_netAndBase 22 = .ok (.getfield 33, 3) := by decide +kernel
theorem dX0_netAndBase_25 : decode cX0_netAndBase 25 = .ok (.aload_n 0, 1) := by decide +kernel
theorem dX0_netAndBase_26 : decode cX0_netAndBase 26 = .ok (.getfield 30, 3) := by decide +kernel
theorem dX0_netAndBase_29 : decode cX0_netAndBase 29 = .ok (.isub, 1) := by decide +kernel
theorem dX0_netAndBase_30 : decode cX0_netAndBase 30 = .ok (.sipush 1000, 3) := by decide +kernel
theorem dX0_netAndBase_33 : decode cX0_netAndBase 33 = .ok (.iadd, 1) := by decide +kernel
theorem dX0_netAndBase_34 : decode cX0_netAndBase 34 = .ok (.ireturn, 1) := by decide +kernel
theorem dX0_borneBy_0 : decode cX0_borneBy 0 = .ok (.iconst 0, 1) := by decide +kernel
theorem dX0_borneBy_1 : decode cX0_borneBy 1 = .ok (.istore_n 2, 1) := by decide +kernel
theorem dX0_borneBy_2 : decode cX0_borneBy 2 = .ok (.iconst 0, 1) := by decide +kernel
theorem dX0_borneBy_3 : decode cX0_borneBy 3 = .ok (.istore_n 3, 1) := by decide +kernel
theorem dX0_borneBy_4 : decode cX0_borneBy 4 = .ok (.iload_n 3, 1) := by decide +kernel
theorem dX0_borneBy_5 : decode cX0_borneBy 5 = .ok (.aload_n 0, 1) := by decide +kernel
theorem dX0_borneBy_6 : decode cX0_borneBy 6 = .ok (.getfield 22, 3) := by decide +kernel
theorem dX0_borneBy_9 : decode cX0_borneBy 9 = .ok (.if_icmp .ge 27, 3) := by decide +kernel
theorem dX0_borneBy_12 : decode cX0_borneBy 12 = .ok (.aload_n 0, 1) := by decide +kernel
theorem dX0_borneBy_13 : decode cX0_borneBy 13 = .ok (.iload_n 3, 1) := by decide +kernel
theorem dX0_borneBy_14 : decode cX0_borneBy 14 = .ok (.invokevirtual 42, 3) := by decide +kernel
theorem dX0_borneBy_17 : decode cX0_borneBy 17 = .ok (.iload_n 1, 1) := by decide +kernel
theorem dX0_borneBy_18 : decode cX0_borneBy 18 = .ok (.if_icmp .ne 12, 3) := by decide +kernel
theorem dX0_borneBy_21 : decode cX0_borneBy 21 = .ok (.iload_n 2, 1) := by decide +kernel
theorem dX0_borneBy_22 : decode cX0_borneBy 22 = .ok (.aload_n 0, 1) := by decide +kernel
theorem dX0_borneBy_23 : decode cX0_borneBy 23 = .ok (.getfield 9, 3) := by decide +kernel
theorem dX0_borneBy_26 : decode cX0_borneBy 26 = .ok (.iload_n 3, 1) := by decide +kernel
theorem dX0_borneBy_27 : decode cX0_borneBy 27 = .ok (.iaload, 1) := by decide +kernel
theorem dX0_borneBy_28 : decode cX0_borneBy 28 = .ok (.iadd, 1) := by decide +kernel
theorem dX0_borneBy_29 : decode cX0_borneBy 29 = .ok (.istore_n 2, 1) := by decide +kernel
theorem dX0_borneBy_30 : decode cX0_borneBy 30 = .ok (.iinc 3 1, 3) := by decide +kernel
theorem dX0_borneBy_33 : decode cX0_borneBy 33 = .ok (.goto (-29), 3) := by decide +kernel
theorem dX0_borneBy_36 : decode cX0_borneBy 36 = .ok (.iload_n 2, 1) := by decide +kernel
theorem dX0_borneBy_37 : decode cX0_borneBy 37 = .ok (.ireturn, 1) := by decide +kernel
theorem dX0_bearerOf_0 : decode cX0_bearerOf 0 = .ok (.iload_n 1, 1) := by decide +kernel
theorem dX0_bearerOf_1 : decode cX0_bearerOf 1 = .ok (.istore_n 2, 1) := by decide +kernel
theorem dX0_bearerOf_2 : decode cX0_bearerOf 2 = .ok (.iload_n 2, 1) := by decide +kernel
theorem dX0_bearerOf_3 : decode cX0_bearerOf 3 = .ok (.aload_n 0, 1) := by decide +kernel
theorem dX0_bearerOf_4 : decode cX0_bearerOf 4 = .ok (.getfield 22, 3) := by decide +kernel
theorem dX0_bearerOf_7 : decode cX0_bearerOf 7 = .ok (.if_icmp .ge 20, 3) := by decide +kernel
theorem dX0_bearerOf_10 : decode cX0_bearerOf 10 = .ok (.aload_n 0, 1) := by decide +kernel
theorem dX0_bearerOf_11 : decode cX0_bearerOf 11 = .ok (.getfield 18, 3) := by decide +kernel
theorem dX0_bearerOf_14 : decode cX0_bearerOf 14 = .ok (.iload_n 2, 1) := by decide +kernel
theorem dX0_bearerOf_15 : decode cX0_bearerOf 15 = .ok (.baload, 1) := by decide +kernel
theorem dX0_bearerOf_16 : decode cX0_bearerOf 16 = .ok (.ifCond .ne 5, 3) := by decide +kernel
theorem dX0_bearerOf_19 : decode cX0_bearerOf 19 = .ok (.iload_n 2, 1) := by decide +kernel
theorem dX0_bearerOf_20 : decode cX0_bearerOf 20 = .ok (.ireturn, 1) := by decide +kernel
theorem dX0_bearerOf_21 : decode cX0_bearerOf 21 = .ok (.iinc 2 1, 3) := by decide +kernel
theorem dX0_bearerOf_24 : decode cX0_bearerOf 24 = .ok (.goto (-22), 3) := by decide +kernel
theorem dX0_bearerOf_27 : decode cX0_bearerOf 27 = .ok (.iload_n 1, 1) := by decide +kernel
theorem dX0_bearerOf_28 : decode cX0_bearerOf 28 = .ok (.iconst 1, 1) := by decide +kernel
theorem dX0_bearerOf_29 : decode cX0_bearerOf 29 = .ok (.isub, 1) := by decide +kernel
theorem dX0_bearerOf_30 : decode cX0_bearerOf 30 = .ok (.istore_n 2, 1) := by decide +kernel
theorem dX0_bearerOf_31 : decode cX0_bearerOf 31 = .ok (.iload_n 2, 1) := by decide +kernel
theorem dX0_bearerOf_32 : decode cX0_bearerOf 32 = .ok (.ifCond .lt 20, 3) := by decide +kernel
theorem dX0_bearerOf_35 : decode cX0_bearerOf 35 = .ok (.aload_n 0, 1) := by decide +kernel
theorem dX0_bearerOf_36 : decode cX0_bearerOf 36 = .ok (.getfield 18, 3) := by decide +kernel
theorem dX0_bearerOf_39 : decode cX0_bearerOf 39 = .ok (.iload_n 2, 1) := by decide +kernel
theorem dX0_bearerOf_40 : decode cX0_bearerOf 40 = .ok (.baload, 1) := by decide +kernel
theorem dX0_bearerOf_41 : decode cX0_bearerOf 41 = .ok (.ifCond .ne 5, 3) := by decide +kernel
theorem dX0_bearerOf_44 : decode cX0_bearerOf 44 = .ok (.iload_n 2, 1) := by decide +kernel
theorem dX0_bearerOf_45 : decode cX0_bearerOf 45 = .ok (.ireturn, 1) := by decide +kernel
theorem dX0_bearerOf_46 : decode cX0_bearerOf 46 = .ok (.iinc 2 (-1), 3) := by decide +kernel
theorem dX0_bearerOf_49 : decode cX0_bearerOf 49 = .ok (.goto (-18), 3) := by decide +kernel
theorem dX0_bearerOf_52 : decode cX0_bearerOf 52 = .ok (.bipush (-5), 2) := by decide +kernel
theorem dX0_bearerOf_54 : decode cX0_bearerOf 54 = .ok (.ireturn, 1) := by decide +kernel
theorem dX0_copyFrom_0 : decode cX0_copyFrom 0 = .ok (.aload_n 1, 1) := by decide +kernel
theorem dX0_copyFrom_1 : decode cX0_copyFrom 1 = .ok (.getfield 9, 3) := by decide +kernel
theorem dX0_copyFrom_4 : decode cX0_copyFrom 4 = .ok (.iconst 0, 1) := by decide +kernel
theorem dX0_copyFrom_5 : decode cX0_copyFrom 5 = .ok (.aload_n 0, 1) := by decide +kernel
theorem dX0_copyFrom_6 : decode cX0_copyFrom 6 = .ok (.getfield 9, 3) := by decide +kernel
theorem dX0_copyFrom_9 : decode cX0_copyFrom 9 = .ok (.iconst 0, 1) := by decide +kernel
theorem dX0_copyFrom_10 : decode cX0_copyFrom 10 = .ok (.iconst 5, 1) := by decide +kernel
theorem dX0_copyFrom_11 : decode cX0_copyFrom 11 = .ok (.invokestatic 46, 3) := by decide +kernel
theorem dX0_copyFrom_14 : decode cX0_copyFrom 14 = .ok (.aload_n 1, 1) := by decide +kernel
theorem dX0_copyFrom_15 : decode cX0_copyFrom 15 = .ok (.getfield 15, 3) := by decide +kernel
theorem dX0_copyFrom_18 : decode cX0_copyFrom 18 = .ok (.iconst 0, 1) := by decide +kernel
theorem dX0_copyFrom_19 : decode cX0_copyFrom 19 = .ok (.aload_n 0, 1) := by decide +kernel
theorem dX0_copyFrom_20 : decode cX0_copyFrom 20 = .ok (.getfield 15, 3) := by decide +kernel
theorem dX0_copyFrom_23 : decode cX0_copyFrom 23 = .ok (.iconst 0, 1) := by decide +kernel
theorem dX0_copyFrom_24 : decode cX0_copyFrom 24 = .ok (.iconst 5, 1) := by decide +kernel
theorem dX0_copyFrom_25 : decode cX0_copyFrom 25 = .ok (.invokestatic 46, 3) := by decide +kernel
theorem dX0_copyFrom_28 : decode cX0_copyFrom 28 = .ok (.iconst 0, 1) := by decide +kernel
theorem dX0_copyFrom_29 : decode cX0_copyFrom 29 = .ok (.istore_n 2, 1) := by decide +kernel
theorem dX0_copyFrom_30 : decode cX0_copyFrom 30 = .ok (.iload_n 2, 1) := by decide +kernel
theorem dX0_copyFrom_31 : decode cX0_copyFrom 31 = .ok (.iconst 5, 1) := by decide +kernel
theorem dX0_copyFrom_32 : decode cX0_copyFrom 32 = .ok (.if_icmp .ge 21, 3) := by decide +kernel
theorem dX0_copyFrom_35 : decode cX0_copyFrom 35 = .ok (.aload_n 0, 1) := by decide +kernel
theorem dX0_copyFrom_36 : decode cX0_copyFrom 36 = .ok (.getfield 18, 3) := by decide +kernel
theorem dX0_copyFrom_39 : decode cX0_copyFrom 39 = .ok (.iload_n 2, 1) := by decide +kernel
theorem dX0_copyFrom_40 : decode cX0_copyFrom 40 = .ok (.aload_n 1, 1) := by decide +kernel
theorem dX0_copyFrom_41 : decode cX0_copyFrom 41 = .ok (.getfield 18, 3) := by decide +kernel
theorem dX0_copyFrom_44 : decode cX0_copyFrom 44 = .ok (.iload_n 2, 1) := by decide +kernel
theorem dX0_copyFrom_45 : decode cX0_copyFrom 45 = .ok (.baload, 1) := by decide +kernel
theorem dX0_copyFrom_46 : decode cX0_copyFrom 46 = .ok (.bastore, 1) := by decide +kernel
theorem dX0_copyFrom_47 : decode cX0_copyFrom 47 = .ok (.iinc 2 1, 3) := by decide +kernel
theorem dX0_copyFrom_50 : decode cX0_copyFrom 50 = .ok (.goto (-20), 3) := by decide +kernel
theorem dX0_copyFrom_53 : decode cX0_copyFrom 53 = .ok (.aload_n 0, 1) := by decide +kernel
theorem dX0_copyFrom_54 : decode cX0_copyFrom 54 = .ok (.aload_n 1, 1) := by decide +kernel
theorem dX0_copyFrom_55 : decode cX0_copyFrom 55 = .ok (.getfield 22, 3) := by decide +kernel
theorem dX0_copyFrom_58 : decode cX0_copyFrom 58 = .ok (.putfield 22, 3) := by decide +kernel
theorem dX0_copyFrom_61 : decode cX0_copyFrom 61 = .ok (.aload_n 0, 1) := by decide +kernel
theorem dX0_copyFrom_62 : decode cX0_copyFrom 62 = .ok (.aload_n 1, 1) := by decide +kernel
theorem dX0_copyFrom_63 : decode cX0_copyFrom 63 = .ok (.getfield 30, 3) := by decide +kernel
theorem dX0_copyFrom_66 : decode cX0_copyFrom 66 = .ok (.putfield 30, 3) := by decide +kernel
theorem dX0_copyFrom_69 : decode cX0_copyFrom 69 = .ok (.aload_n 0, 1) := by decide +kernel
theorem dX0_copyFrom_70 : decode cX0_copyFrom 70 = .ok (.aload_n 1, 1) := by decide +kernel
theorem dX0_copyFrom_71 : decode cX0_copyFrom 71 = .ok (.getfield 33, 3) := by decide +kernel
theorem dX0_copyFrom_74 : decode cX0_copyFrom 74 = .ok (.putfield 33, 3) := by decide +kernel
theorem dX0_copyFrom_77 : decode cX0_copyFrom 77 = .ok (.aload_n 0, 1) := by decide +kernel
theorem dX0_copyFrom_78 : decode cX0_copyFrom 78 = .ok (.aload_n 1, 1) := by decide +kernel
theorem dX0_copyFrom_79 : decode cX0_copyFrom 79 = .ok (.getfield 36, 3) := by decide +kernel
theorem dX0_copyFrom_82 : decode cX0_copyFrom 82 = .ok (.putfield 36, 3) := by decide +kernel
theorem dX0_copyFrom_85 : decode cX0_copyFrom 85 = .ok (.aload_n 0, 1) := by decide +kernel
theorem dX0_copyFrom_86 : decode cX0_copyFrom 86 = .ok (.aload_n 1, 1) := by decide +kernel
theorem dX0_copyFrom_87 : decode cX0_copyFrom 87 = .ok (.getfield 39, 3) := by decide +kernel
theorem dX0_copyFrom_90 : decode cX0_copyFrom 90 = .ok (.putfield 39, 3) := by decide +kernel
theorem dX0_copyFrom_93 : decode cX0_copyFrom 93 = .ok (.return_, 1) := by decide +kernel
theorem dX1_init_0 : decode cX1_init 0 = .ok (.aload_n 0, 1) := by decide +kernel
theorem dX1_init_1 : decode cX1_init 1 = .ok (.invokespecial 3, 3) := by decide +kernel
theorem dX1_init_4 : decode cX1_init 4 = .ok (.aload_n 0, 1) := by decide +kernel
theorem dX1_init_5 : decode cX1_init 5 = .ok (.bipush 60, 2) := by decide +kernel
theorem dX1_init_7 : decode cX1_init 7 = .ok (.newarray .char, 2) := by decide +kernel
theorem dX1_init_9 : decode cX1_init 9 = .ok (.putfield 9, 3) := by decide +kernel
theorem dX1_init_12 : decode cX1_init 12 = .ok (.aload_n 0, 1) := by decide +kernel
theorem dX1_init_13 : decode cX1_init 13 = .ok (.bipush 60, 2) := by decide +kernel
theorem dX1_init_15 : decode cX1_init 15 = .ok (.newarray .int, 2) := by decide +kernel
theorem dX1_init_17 : decode cX1_init 17 = .ok (.putfield 15, 3) := by decide +kernel
theorem dX1_init_20 : decode cX1_init 20 = .ok (.aload_n 0, 1) := by decide +kernel
theorem dX1_init_21 : decode cX1_init 21 = .ok (.bipush 60, 2) := by decide +kernel
theorem dX1_init_23 : decode cX1_init 23 = .ok (.newarray .int, 2) := by decide +kernel
theorem dX1_init_25 : decode cX1_init 25 = .ok (.putfield 19, 3) := by decide +kernel
theorem dX1_init_28 : decode cX1_init 28 = .ok (.return_, 1) := by decide +kernel
theorem dX1_addCharacter_0 : decode cX1_addCharacter 0 = .ok (.aload_n 0, 1) := by decide +kernel
theorem dX1_addCharacter_1 : decode cX1_addCharacter 1 = .ok (.getfield 22, 3) := by decide +kernel
theorem dX1_addCharacter_4 : decode cX1_addCharacter 4 = .ok (.bipush 60, 2) := by decide +kernel
theorem dX1_addCharacter_6 : decode cX1_addCharacter 6 = .ok (.if_icmp .lt 5, 3) := by decide +kernel
theorem dX1_addCharacter_9 : decode cX1_addCharacter 9 = .ok (.iconst 0, 1) := by decide +kernel
theorem dX1_addCharacter_10 : decode cX1_addCharacter 10 = .ok (.ireturn, 1) := by decide +kernel
theorem dX1_addCharacter_11 : decode cX1_addCharacter 11 = .ok (.aload_n 0, 1) := by decide +kernel
theorem dX1_addCharacter_12 : decode cX1_addCharacter 12 = .ok (.getfield 9, 3) := by decide +kernel
theorem dX1_addCharacter_15 : decode cX1_addCharacter 15 = .ok (.aload_n 0, 1) := by decide +kernel
theorem dX1_addCharacter_16 : decode cX1_addCharacter 16 = .ok (.getfield 22, 3) := by decide +kernel
theorem dX1_addCharacter_19 : decode cX1_addCharacter 19 = .ok (.iload_n 1, 1) := by decide +kernel
theorem dX1_addCharacter_20 : decode cX1_addCharacter 20 = .ok (.castore, 1) := by decide +kernel
theorem dX1_addCharacter_21 : decode cX1_addCharacter 21 = .ok (.aload_n 0, 1) := by decide +kernel
theorem dX1_addCharacter_22 : decode cX1_addCharacter 22 = .ok (.dup, 1) := by decide +kernel
theorem dX1_addCharacter_23 : decode cX1_addCharacter 23 = .ok (.getfield 22, 3) := by decide +kernel
theorem dX1_addCharacter_26 : decode cX1_addCharacter 26 = .ok (.iconst 1, 1) := by decide +kernel
theorem dX1_addCharacter_27 : decode cX1_addCharacter 27 = .ok (.iadd, 1) := by decide +kernel
theorem dX1_addCharacter_28 : decode cX1_addCharacter 28 = .ok (.putfield 22, 3) := by decide +kernel
theorem dX1_addCharacter_31 : decode cX1_addCharacter 31 = .ok (.iconst 1, 1) := by decide +kernel
theorem dX1_addCharacter_32 : decode cX1_addCharacter 32 = .ok (.ireturn, 1) := by decide +kernel
theorem dX1_read_0 : decode cX1_read 0 = .ok (.aload_n 0, 1) := by decide +kernel
theorem dX1_read_1 : decode cX1_read 1 = .ok (.bipush (-5), 2) := by decide +kernel
theorem dX1_read_3 : decode cX1_read 3 = .ok (.putfield 26, 3) := by decide +kernel
theorem dX1_read_6 : decode cX1_read 6 = .ok (.aload_n 0, 1) := by decide +kernel
theorem dX1_read_7 : decode cX1_read 7 = .ok (.iconst 0, 1) := by decide +kernel
theorem dX1_read_8 : decode cX1_read 8 = .ok (.putfield 29, 3) := by decide +kernel
theorem dX1_read_11 : decode cX1_read 11 = .ok (.aload_n 0, 1) := by decide +kernel
theorem dX1_read_12 : decode cX1_read 12 = .ok (.iconst 0, 1) := by decide +kernel
theorem dX1_read_13 : decode cX1_read 13 = .ok (.putfield 32, 3) := by decide +kernel
theorem dX1_read_16 : decode cX1_read 16 = .ok (.aload_n 0, 1) := by decide +kernel
theorem dX1_read_17 : decode cX1_read 17 = .ok (.invokevirtual 35, 3) := by decide +kernel
theorem dX1_read_20 : decode cX1_read 20 = .ok (.iconst 0, 1) := by decide +kernel
theorem dX1_read_21 : decode cX1_read 21 = .ok (.istore_n 1, 1) := by decide +kernel
theorem dX1_read_22 : decode cX1_read 22 = .ok (.iload_n 1, 1) := by decide +kernel
theorem dX1_read_23 : decode cX1_read 23 = .ok (.aload_n 0, 1) := by decide +kernel
theorem dX1_read_24 : decode cX1_read 24 = .ok (.getfield 22, 3) := by decide +kernel
theorem dX1_read_27 : decode cX1_read 27 = .ok (.if_icmp .ge 28, 3) := by decide +kernel
theorem dX1_read_30 : decode cX1_read 30 = .ok (.aload_n 0, 1) := by decide +kernel
theorem dX1_read_31 : decode cX1_read 31 = .ok (.aload_n 0, 1) := by decide +kernel
theorem dX1_read_32 : decode cX1_read 32 = .ok (.getfield 9, 3) := by decide +kernel
theorem dX1_read_35 : decode cX1_read 35 = .ok (.iload_n 1, 1) := by decide +kernel
theorem dX1_read_36 : decode cX1_read 36 = .ok (.caload, 1) := by decide +kernel
theorem dX1_read_37 : decode cX1_read 37 = .ok (.invokevirtual 38, 3) := by decide +kernel
theorem dX1_read_40 : decode cX1_read 40 = .ok (.ifCond .ne 9, 3) := by decide +kernel
theorem dX1_read_43 : decode cX1_read 43 = .ok (.aload_n 0, 1) := by decide +kernel
theorem dX1_read_44 : decode cX1_read 44 = .ok (.iload_n 1, 1) := by decide +kernel
theorem dX1_read_45 : decode cX1_read 45 = .ok (.putfield 26, 3) := by decide +kernel
theorem dX1_read_48 : decode cX1_read 48 = .ok (.return_, 1) := by decide +kernel
theorem dX1_read_49 : decode cX1_read 49 = .ok (.iinc 1 1, 3) := by decide +kernel
theorem dX1_read_52 : decode cX1_read 52 = .ok (.goto (-30), 3) := by decide +kernel
theorem dX1_read_55 : decode cX1_read 55 = .ok (.aload_n 0, 1) := by decide +kernel
theorem dX1_read_56 : decode cX1_read 56 = .ok (.getfield 42, 3) := by decide +kernel
theorem dX1_read_59 : decode cX1_read 59 = .ok (.ifCond .ne 10, 3) := by decide +kernel
theorem dX1_read_62 : decode cX1_read 62 = .ok (.aload_n 0, 1) := by decide +kernel
theorem dX1_read_63 : decode cX1_read 63 = .ok (.invokevirtual 46, 3) := by decide +kernel
theorem dX1_read_66 : decode cX1_read 66 = .ok (.ifCond .ne 12, 3) := by decide +kernel
theorem dX1_read_69 : decode cX1_read 69 = .ok (.aload_n 0, 1) := by decide +kernel
theorem dX1_read_70 : decode cX1_read 70 = .ok (.aload_n 0, 1) := by decide +kernel
theorem dX1_read_71 : decode cX1_read 71 = .ok (.getfield 22, 3) := by decide +kernel
theorem dX1_read_74 : decode cX1_read 74 = .ok (.putfield 26, 3) := by decide +kernel
theorem dX1_read_77 : decode cX1_read 77 = .ok (.return_, 1) := by decide +kernel
theorem dX1_read_78 : decode cX1_read 78 = .ok (.aload_n 0, 1) := by decide +kernel
theorem dX1_read_79 : decode cX1_read 79 = .ok (.invokevirtual 50, 3) := by decide +kernel
theorem dX1_read_82 : decode cX1_read 82 = .ok (.return_, 1) := by decide +kernel
theorem dX1_beginCart_0 : decode cX1_beginCart 0 = .ok (.aload_n 0, 1) := by decide +kernel
theorem dX1_beginCart_1 : decode cX1_beginCart 1 = .ok (.dup, 1) := by decide +kernel
theorem dX1_beginCart_2 : decode cX1_beginCart 2 = .ok (.getfield 32, 3) := by decide +kernel
theorem dX1_beginCart_5 : decode cX1_beginCart 5 = .ok (.iconst 1, 1) := by decide +kernel
theorem dX1_beginCart_6 : decode cX1_beginCart 6 = .ok (.iadd, 1) := by decide +kernel
theorem dX1_beginCart_7 : decode cX1_beginCart 7 = .ok (.putfield 32, 3) := by decide +kernel
theorem dX1_beginCart_10 : decode cX1_beginCart 10 = .ok (.aload_n 0, 1) := by decide +kernel
theorem dX1_beginCart_11 : decode cX1_beginCart 11 = .ok (.iconst 1, 1) := by decide +kernel
theorem dX1_beginCart_12 : decode cX1_beginCart 12 = .ok (.putfield 53, 3) := by decide +kernel
theorem dX1_beginCart_15 : decode cX1_beginCart 15 = .ok (.aload_n 0, 1) := by decide +kernel
theorem dX1_beginCart_16 : decode cX1_beginCart 16 = .ok (.iconst 0, 1) := by decide +kernel
theorem dX1_beginCart_17 : decode cX1_beginCart 17 = .ok (.putfield 56, 3) := by decide +kernel
theorem dX1_beginCart_20 : decode cX1_beginCart 20 = .ok (.aload_n 0, 1) := by decide +kernel
theorem dX1_beginCart_21 : decode cX1_beginCart 21 = .ok (.iconst 0, 1) := by decide +kernel
theorem dX1_beginCart_22 : decode cX1_beginCart 22 = .ok (.invokevirtual 59, 3) := by decide +kernel
theorem dX1_beginCart_25 : decode cX1_beginCart 25 = .ok (.return_, 1) := by decide +kernel
theorem dX1_beginNumber_0 : decode cX1_beginNumber 0 = .ok (.aload_n 0, 1) := by decide +kernel
theorem dX1_beginNumber_1 : decode cX1_beginNumber 1 = .ok (.iconst 0, 1) := by decide +kernel
theorem dX1_beginNumber_2 : decode cX1_beginNumber 2 = .ok (.putfield 63, 3) := by decide +kernel
theorem dX1_beginNumber_5 : decode cX1_beginNumber 5 = .ok (.aload_n 0, 1) := by decide +kernel
theorem dX1_beginNumber_6 : decode cX1_beginNumber 6 = .ok (.iload_n 1, 1) := by decide +kernel
theorem dX1_beginNumber_7 : decode cX1_beginNumber 7 = .ok (.putfield 42, 3) := by decide +kernel
theorem dX1_beginNumber_10 : decode cX1_beginNumber 10 = .ok (.return_, 1) := by decide +kernel
theorem dX1_isWhole_0 : decode cX1_isWhole 0 = .ok (.aload_n 0, 1) := by decide +kernel
theorem dX1_isWhole_1 : decode cX1_isWhole 1 = .ok (.getfield 42, 3) := by decide +kernel
theorem dX1_isWhole_4 : decode cX1_isWhole 4 = .ok (.ifCond .eq 13, 3) := by decide +kernel
theorem dX1_isWhole_7 : decode cX1_isWhole 7 = .ok (.aload_n 0, 1) := by decide +kernel
theorem dX1_isWhole_8 : decode cX1_isWhole 8 = .ok (.getfield 63, 3) := by decide +kernel
theorem dX1_isWhole_11 : decode cX1_isWhole 11 = .ok (.invokestatic 66, 3) := by decide +kernel
theorem dX1_isWhole_14 : decode cX1_isWhole 14 = .ok (.goto 10, 3) := by decide +kernel
theorem dX1_isWhole_17 : decode cX1_isWhole 17 = .ok (.aload_n 0, 1) := by decide +kernel
theorem dX1_isWhole_18 : decode cX1_isWhole 18 = .ok (.getfield 63, 3) := by decide +kernel
theorem dX1_isWhole_21 : decode cX1_isWhole 21 = .ok (.invokestatic 70, 3) := by decide +kernel
theorem dX1_isWhole_24 : decode cX1_isWhole 24 = .ok (.ireturn, 1) := by decide +kernel
theorem dX1_endAxle_0 : decode cX1_endAxle 0 = .ok (.aload_n 0, 1) := by decide +kernel
theorem dX1_endAxle_1 : decode cX1_endAxle 1 = .ok (.getfield 29, 3) := by decide +kernel
theorem dX1_endAxle_4 : decode cX1_endAxle 4 = .ok (.bipush 60, 2) := by decide +kernel
theorem dX1_endAxle_6 : decode cX1_endAxle 6 = .ok (.if_icmp .lt 4, 3) := by decide +kernel
theorem dX1_endAxle_9 : decode cX1_endAxle 9 = .ok (.return_, 1) := by decide +kernel
theorem dX1_endAxle_10 : decode cX1_endAxle 10 = .ok (.aload_n 0, 1) := by decide +kernel
theorem dX1_endAxle_11 : decode cX1_endAxle 11 = .ok (.getfield 15, 3) := by decide +kernel
theorem dX1_endAxle_14 : decode cX1_endAxle 14 = .ok (.aload_n 0, 1) := by decide +kernel
theorem dX1_endAxle_15 : decode cX1_endAxle 15 = .ok (.getfield 29, 3) := by decide +kernel
theorem dX1_endAxle_18 : decode cX1_endAxle 18 = .ok (.aload_n 0, 1) := by decide +kernel
theorem dX1_endAxle_19 : decode cX1_endAxle 19 = .ok (.getfield 63, 3) := by decide +kernel
theorem dX1_endAxle_22 : decode cX1_endAxle 22 = .ok (.iastore, 1) := by decide +kernel
theorem dX1_endAxle_23 : decode cX1_endAxle 23 = .ok (.aload_n 0, 1) := by decide +kernel
theorem dX1_endAxle_24 : decode cX1_endAxle 24 = .ok (.getfield 19, 3) := by decide +kernel
theorem dX1_endAxle_27 : decode cX1_endAxle 27 = .ok (.aload_n 0, 1) := by decide +kernel
theorem dX1_endAxle_28 : decode cX1_endAxle 28 = .ok (.getfield 29, 3) := by decide +kernel
theorem dX1_endAxle_31 : decode cX1_endAxle 31 = .ok (.aload_n 0, 1) := by decide +kernel
theorem dX1_endAxle_32 : decode cX1_endAxle 32 = .ok (.getfield 56, 3) := by decide +kernel
theorem dX1_endAxle_35 : decode cX1_endAxle 35 = .ok (.iastore, 1) := by decide +kernel
theorem dX1_endAxle_36 : decode cX1_endAxle 36 = .ok (.aload_n 0, 1) := by decide +kernel
theorem dX1_endAxle_37 : decode cX1_endAxle 37 = .ok (.dup, 1) := by decide +kernel
theorem dX1_endAxle_38 : decode cX1_endAxle 38 = .ok (.getfield 29, 3) := by decide +kernel
theorem dX1_endAxle_41 : decode cX1_endAxle 41 = .ok (.iconst 1, 1) := by decide +kernel
theorem dX1_endAxle_42 : decode cX1_endAxle 42 = .ok (.iadd, 1) := by decide +kernel
theorem dX1_endAxle_43 : decode cX1_endAxle 43 = .ok (.putfield 29, 3) := by decide +kernel
theorem dX1_endAxle_46 : decode cX1_endAxle 46 = .ok (.return_, 1) := by decide +kernel
theorem dX1_accepts_0 : decode cX1_accepts 0 = .ok (.iload_n 1, 1) := by decide +kernel
theorem dX1_accepts_1 : decode cX1_accepts 1 = .ok (.bipush 48, 2) := by decide +kernel
theorem dX1_accepts_3 : decode cX1_accepts 3 = .ok (.if_icmp .lt 18, 3) := by decide +kernel
theorem dX1_accepts_6 : decode cX1_accepts 6 = .ok (.iload_n 1, 1) := by decide +kernel
theorem dX1_accepts_7 : decode cX1_accepts 7 = .ok (.bipush 57, 2) := by decide +kernel
theorem dX1_accepts_9 : decode cX1_accepts 9 = .ok (.if_icmp .gt 12, 3) := by decide +kernel
theorem dX1_accepts_12 : decode cX1_accepts 12 = .ok (.aload_n 0, 1) := by decide +kernel
theorem dX1_accepts_13 : decode cX1_accepts 13 = .ok (.iload_n 1, 1) := by decide +kernel
theorem dX1_accepts_14 : decode cX1_accepts 14 = .ok (.bipush 48, 2) := by decide +kernel
theorem dX1_accepts_16 : decode cX1_accepts 16 = .ok (.isub, 1) := by decide +kernel
theorem dX1_accepts_17 : decode cX1_accepts 17 = .ok (.invokevirtual 73, 3) := by decide +kernel
theorem dX1_accepts_20 : decode cX1_accepts 20 = .ok (.ireturn, 1) := by decide +kernel
theorem dX1_accepts_21 : decode cX1_accepts 21 = .ok (.aload_n 0, 1) := by decide +kernel
theorem dX1_accepts_22 : decode cX1_accepts 22 = .ok (.invokevirtual 46, 3) := by decide +kernel
theorem dX1_accepts_25 : decode cX1_accepts 25 = .ok (.ifCond .ne 5, 3) := by decide +kernel
theorem dX1_accepts_28 : decode cX1_accepts 28 = .ok (.iconst 0, 1) := by decide +kernel
theorem dX1_accepts_29 : decode cX1_accepts 29 = .ok (.ireturn, 1) := by decide +kernel
theorem dX1_accepts_30 : decode cX1_accepts 30 = .ok (.aload_n 0, 1) := by decide +kernel
theorem dX1_accepts_31 : decode cX1_accepts 31 = .ok (.getfield 42, 3) := by decide +kernel
theorem dX1_accepts_34 : decode cX1_accepts 34 = .ok (.ifCond .eq 11, 3) := by decide +kernel
theorem dX1_accepts_37 : decode cX1_accepts 37 = .ok (.aload_n 0, 1) := by decide +kernel
theorem dX1_accepts_38 : decode cX1_accepts 38 = .ok (.iload_n 1, 1) := by decide +kernel
theorem dX1_accepts_39 : decode cX1_accepts 39 = .ok (.invokevirtual 76, 3) := by decide +kernel
theorem dX1_accepts_42 : decode cX1_accepts 42 = .ok (.goto 8, 3) := by decide +kernel
theorem dX1_accepts_45 : decode cX1_accepts 45 = .ok (.aload_n 0, 1) := by decide +kernel
theorem dX1_accepts_46 : decode cX1_accepts 46 = .ok (.iload_n 1, 1) := by decide +kernel
theorem dX1_accepts_47 : decode cX1_accepts 47 = .ok (.invokevirtual 79, 3) := by decide +kernel
theorem dX1_accepts_50 : decode cX1_accepts 50 = .ok (.ireturn, 1) := by decide +kernel
theorem dX1_acceptsDigit_0 : decode cX1_acceptsDigit 0 = .ok (.aload_n 0, 1) := by decide +kernel
theorem dX1_acceptsDigit_1 : decode cX1_acceptsDigit 1 = .ok (.getfield 63, 3) := by decide +kernel
theorem dX1_acceptsDigit_4 : decode cX1_acceptsDigit 4 = .ok (.bipush 10, 2) := by decide +kernel
theorem dX1_acceptsDigit_6 : decode cX1_acceptsDigit 6 = .ok (.imul, 1) := by decide +kernel
theorem dX1_acceptsDigit_7 : decode cX1_acceptsDigit 7 = .ok (.iload_n 1, 1) := by decide +kernel
theorem dX1_acceptsDigit_8 : decode cX1_acceptsDigit 8 = .ok (.iadd, 1) := by decide +kernel
theorem dX1_acceptsDigit_9 : decode cX1_acceptsDigit 9 = .ok (.istore_n 2, 1) := by decide +kernel
theorem dX1_acceptsDigit_10 : decode cX1_acceptsDigit 10 = .ok (.iload_n 2, 1) := by decide +kernel
theorem dX1_acceptsDigit_11 : decode cX1_acceptsDigit 11 = .ok (.ifCond .eq 22, 3) := by decide +kernel
theorem dX1_acceptsDigit_14 : decode cX1_acceptsDigit 14 = .ok (.iload_n 2, 1) := by decide +kernel
theorem dX1_acceptsDigit_15 : decode cX1_acceptsDigit 15 = .ok (.aload_n 0, 1) := by decide +kernel
theorem dX1_acceptsDigit_16 : decode cX1_acceptsDigit 16 = .ok (.getfield 42, 3) := by decide +kernel
theorem dX1_acceptsDigit_19 : decode cX1_acceptsDigit 19 = .ok (.ifCond .eq 8, 3) := by decide +kernel
theorem dX1_acceptsDigit_22 : decode cX1_acceptsDigit 22 = .ok (.bipush 40, 2) := by decide +kernel
theorem dX1_acceptsDigit_24 : decode cX1_acceptsDigit 24 = .ok (.goto 6, 3) := by decide +kernel
theorem dX1_acceptsDigit_27 : decode cX1_acceptsDigit 27 = .ok (.sipush 200, 3) := by decide +kernel
theorem dX1_acceptsDigit_30 : decode cX1_acceptsDigit 30 = .ok (.if_icmp .le 5, 3) := by decide +kernel
theorem dX1_acceptsDigit_33 : decode cX1_acceptsDigit 33 = .ok (.iconst 0, 1) := by decide +kernel
theorem dX1_acceptsDigit_34 : decode cX1_acceptsDigit 34 = .ok (.ireturn, 1) := by decide +kernel
theorem dX1_acceptsDigit_35 : decode cX1_acceptsDigit 35 = .ok (.aload_n 0, 1) := by decide +kernel
theorem dX1_acceptsDigit_36 : decode cX1_acceptsDigit 36 = .ok (.iload_n 2, 1) := by decide +kernel
theorem dX1_acceptsDigit_37 : decode cX1_acceptsDigit 37 = .ok (.putfield 63, 3) := by decide +kernel
theorem dX1_acceptsDigit_40 : decode cX1_acceptsDigit 40 = .ok (.iconst 1, 1) := by decide +kernel
theorem dX1_acceptsDigit_41 : decode cX1_acceptsDigit 41 = .ok (.ireturn, 1) := by decide +kernel
theorem dX1_acceptsBehindDistance_0 : decode cX1_acceptsBehindDistance 0 = .ok (.iload_n 1, 1) := by decide +kernel
theorem dX1_acceptsBehindDistance_1 : decode cX1_acceptsBehindDistance 1 = .ok (.bipush 42, 2) := by decide +kernel
theorem dX1_acceptsBehindDistance_3 : decode cX1_acceptsBehindDistance 3 = .ok (.if_icmp .eq 5, 3) := by decide +kernel
theorem dX1_acceptsBehindDistance_6 : decode cX1_acceptsBehindDistance 6 = .ok (.iconst 0, 1) := by decide +kernel
theorem dX1_acceptsBehindDistance_7 : decode cX1_acceptsBehindDistance 7 = .ok (.ireturn, 1) := by decide +kernel
theorem dX1_acceptsBehindDistance_8 : decode cX1_acceptsBehindDistance 8 = .ok (.aload_n 0, 1) := by decide +kernel
theorem dX1_acceptsBehindDistance_9 : decode cX1_acceptsBehindDistance 9 = .ok (.aload_n 0, 1) := by decide +kernel
theorem dX1_acceptsBehindDistance_10 : decode cX1_acceptsBehindDistance 10 = .ok (.getfield 63, 3) := by decide +kernel
theorem dX1_acceptsBehindDistance_13 : decode cX1_acceptsBehindDistance 13 = .ok (.putfield 56, 3) := by decide +kernel
theorem dX1_acceptsBehindDistance_16 : decode cX1_acceptsBehindDistance 16 = .ok (.aload_n 0, 1) := by decide +kernel
theorem dX1_acceptsBehindDistance_17 : decode cX1_acceptsBehindDistance 17 = .ok (.iconst 0, 1) := by decide +kernel
theorem dX1_acceptsBehindDistance_18 : decode cX1_acceptsBehindDistance 18 = .ok (.invokevirtual 59, 3) := by decide +kernel
theorem dX1_acceptsBehindDistance_21 : decode cX1_acceptsBehindDistance 21 = .ok (.iconst 1, 1) := by decide +kernel
theorem dX1_acceptsBehindDistance_22 : decode cX1_acceptsBehindDistance 22 = .ok (.ireturn, 1) := by decide +kernel
theorem dX1_acceptsBehindWeight_0 : decode cX1_acceptsBehindWeight 0 = .ok (.iload_n 1, 1) := by decide +kernel
theorem dX1_acceptsBehindWeight_1 : decode cX1_acceptsBehindWeight 1 = .ok (.bipush 59, 2) := by decide +kernel
theorem dX1_acceptsBehindWeight_3 : decode cX1_acceptsBehindWeight 3 = .ok (.if_icmp .ne 13, 3) := by decide +kernel
theorem dX1_acceptsBehindWeight_6 : decode cX1_acceptsBehindWeight 6 = .ok (.aload_n 0, 1) := by decide +kernel
theorem dX1_acceptsBehindWeight_7 : decode cX1_acceptsBehindWeight 7 = .ok (.invokevirtual 50, 3) := by decide +kernel
theorem dX1_acceptsBehindWeight_10 : decode cX1_acceptsBehindWeight 10 = .ok (.aload_n 0, 1) := by decide +kernel
theorem dX1_acceptsBehindWeight_11 : decode cX1_acceptsBehindWeight 11 = .ok (.invokevirtual 35, 3) := by decide +kernel
theorem dX1_acceptsBehindWeight_14 : decode cX1_acceptsBehindWeight 14 = .ok (.iconst 1, 1) := by decide +kernel
theorem dX1_acceptsBehindWeight_15 : decode cX1_acceptsBehindWeight 15 = .ok (.ireturn, 1) := by decide +kernel
theorem dX1_acceptsBehindWeight_16 : decode cX1_acceptsBehindWeight 16 = .ok (.iload_n 1, 1) := by decide +kernel
theorem dX1_acceptsBehindWeight_17 : decode cX1_acceptsBehindWeight 17 = .ok (.bipush 43, 2) := by decide +kernel
theorem dX1_acceptsBehindWeight_19 : decode cX1_acceptsBehindWeight 19 = .ok (.if_icmp .ne 32, 3) := by decide +kernel
theorem dX1_acceptsBehindWeight_22 : decode cX1_acceptsBehindWeight 22 = .ok (.aload_n 0, 1) := by decide +kernel
theorem dX1_acceptsBehindWeight_23 : decode cX1_acceptsBehindWeight 23 = .ok (.getfield 53, 3) := by decide +kernel
theorem dX1_acceptsBehindWeight_26 : decode cX1_acceptsBehindWeight 26 = .ok (.iconst 5, 1) := by decide +kernel
theorem dX1_acceptsBehindWeight_27 : decode cX1_acceptsBehindWeight 27 = .ok (.if_icmp .ge 24, 3) := by decide +kernel
theorem dX1_acceptsBehindWeight_30 : decode cX1_acceptsBehindWeight 30 = .ok (.aload_n 0, 1) := by decide +kernel
theorem dX1_acceptsBehindWeight_31 : decode cX1_acceptsBehindWeight 31 = .ok (.invokevirtual 50, 3) := by decide +kernel
theorem dX1_acceptsBehindWeight_34 : decode cX1_acceptsBehindWeight 34 = .ok (.aload_n 0, 1) := by decide +kernel
theorem dX1_acceptsBehindWeight_35 : decode cX1_acceptsBehindWeight 35 = .ok (.dup, 1) := by decide +kernel
theorem dX1_acceptsBehindWeight_36 : decode cX1_acceptsBehindWeight 36 = .ok (.getfield 53, 3) := by decide +kernel
theorem dX1_acceptsBehindWeight_39 : decode cX1_acceptsBehindWeight 39 = .ok (.iconst 1, 1) := by decide +kernel
theorem dX1_acceptsBehindWeight_40 : decode cX1_acceptsBehindWeight 40 = .ok (.iadd, 1) := by decide +kernel
theorem dX1_acceptsBehindWeight_41 : decode cX1_acceptsBehindWeight 41 = .ok (.putfield 53, 3) := by decide +kernel
theorem dX1_acceptsBehindWeight_44 : decode cX1_acceptsBehindWeight 44 = .ok (.aload_n 0, 1) := by decide +kernel
theorem dX1_acceptsBehindWeight_45 : decode cX1_acceptsBehindWeight 45 = .ok (.iconst 1, 1) := by decide +kernel
theorem dX1_acceptsBehindWeight_46 : decode cX1_acceptsBehindWeight 46 = .ok (.invokevirtual 59, 3) := by decide +kernel
theorem dX1_acceptsBehindWeight_49 : decode cX1_acceptsBehindWeight 49 = .ok (.iconst 1, 1) := by decide +kernel
theorem dX1_acceptsBehindWeight_50 : decode cX1_acceptsBehindWeight 50 = .ok (.ireturn, 1) := by decide +kernel
theorem dX1_acceptsBehindWeight_51 : decode cX1_acceptsBehindWeight 51 = .ok (.iconst 0, 1) := by decide +kernel
theorem dX1_acceptsBehindWeight_52 : decode cX1_acceptsBehindWeight 52 = .ok (.ireturn, 1) := by decide +kernel
theorem dX1_bringCarts_0 : decode cX1_bringCarts 0 = .ok (.iconst 0, 1) := by decide +kernel
theorem dX1_bringCarts_1 : decode cX1_bringCarts 1 = .ok (.istore_n 2, 1) := by decide +kernel
theorem dX1_bringCarts_2 : decode cX1_bringCarts 2 = .ok (.iload_n 2, 1) := by decide +kernel
theorem dX1_bringCarts_3 : decode cX1_bringCarts 3 = .ok (.aload_n 0, 1) := by decide +kernel
theorem dX1_bringCarts_4 : decode cX1_bringCarts 4 = .ok (.getfield 29, 3) := by decide +kernel
theorem dX1_bringCarts_7 : decode cX1_bringCarts 7 = .ok (.if_icmp .ge 47, 3) := by decide +kernel
theorem dX1_bringCarts_10 : decode cX1_bringCarts 10 = .ok (.aload_n 0, 1) := by decide +kernel
theorem dX1_bringCarts_11 : decode cX1_bringCarts 11 = .ok (.getfield 19, 3) := by decide +kernel
theorem dX1_bringCarts_14 : decode cX1_bringCarts 14 = .ok (.iload_n 2, 1) := by decide +kernel
theorem dX1_bringCarts_15 : decode cX1_bringCarts 15 = .ok (.iaload, 1) := by decide +kernel
theorem dX1_bringCarts_16 : decode cX1_bringCarts 16 = .ok (.ifCond .ne 16, 3) := by decide +kernel
theorem dX1_bringCarts_19 : decode cX1_bringCarts 19 = .ok (.aload_n 1, 1) := by decide +kernel
theorem dX1_bringCarts_20 : decode cX1_bringCarts 20 = .ok (.aload_n 0, 1) := by decide +kernel
theorem dX1_bringCarts_21 : decode cX1_bringCarts 21 = .ok (.getfield 15, 3) := by decide +kernel
theorem dX1_bringCarts_24 : decode cX1_bringCarts 24 = .ok (.iload_n 2, 1) := by decide +kernel
theorem dX1_bringCarts_25 : decode cX1_bringCarts 25 = .ok (.iaload, 1) := by decide +kernel
theorem dX1_bringCarts_26 : decode cX1_bringCarts 26 = .ok (.invokevirtual 82, 3) := by decide +kernel
theorem dX1_bringCarts_29 : decode cX1_bringCarts 29 = .ok (.goto 19, 3) := by decide +kernel
theorem dX1_bringCarts_32 : decode cX1_bringCarts 32 = .ok (.aload_n 1, 1) := by decide +kernel
theorem dX1_bringCarts_33 : decode cX1_bringCarts 33 = .ok (.aload_n 0, 1) := by decide +kernel
theorem dX1_bringCarts_34 : decode cX1_bringCarts 34 = .ok (.getfield 19, 3) := by decide +kernel
theorem dX1_bringCarts_37 : decode cX1_bringCarts 37 = .ok (.iload_n 2, 1) := by decide +kernel
theorem dX1_bringCarts_38 : decode cX1_bringCarts 38 = .ok (.iaload, 1) := by decide +kernel
theorem dX1_bringCarts_39 : decode cX1_bringCarts 39 = .ok (.aload_n 0, 1) := by decide +kernel
theorem dX1_bringCarts_40 : decode cX1_bringCarts 40 = .ok (.getfield 15, 3) := by decide +kernel
theorem dX1_bringCarts_43 : decode cX1_bringCarts 43 = .ok (.iload_n 2, 1) := by decide +kernel
theorem dX1_bringCarts_44 : decode cX1_bringCarts 44 = .ok (.iaload, 1) := by decide +kernel
theorem dX1_bringCarts_45 : decode cX1_bringCarts 45 = .ok (.invokevirtual 88, 3) := by decide +kernel
theorem dX1_bringCarts_48 : decode cX1_bringCarts 48 = .ok (.iinc 2 1, 3) := by decide +kernel
theorem dX1_bringCarts_51 : decode cX1_bringCarts 51 = .ok (.goto (-49), 3) := by decide +kernel
theorem dX1_bringCarts_54 : decode cX1_bringCarts 54 = .ok (.return_, 1) := by decide +kernel
theorem dX2_init_0 : decode cX2_init 0 = .ok (.aload_n 0, 1) := by decide +kernel
theorem dX2_init_1 : decode cX2_init 1 = .ok (.invokespecial 3, 3) := by decide +kernel
theorem dX2_init_4 : decode cX2_init 4 = .ok (.aload_n 0, 1) := by decide +kernel
theorem dX2_init_5 : decode cX2_init 5 = .ok (.iconst 4, 1) := by decide +kernel
theorem dX2_init_6 : decode cX2_init 6 = .ok (.anewarray 9, 3) := by decide +kernel
theorem dX2_init_9 : decode cX2_init 9 = .ok (.putfield 11, 3) := by decide +kernel
theorem dX2_init_12 : decode cX2_init 12 = .ok (.iconst 0, 1) := by decide +kernel
theorem dX2_init_13 : decode cX2_init 13 = .ok (.istore_n 1, 1) := by decide +kernel
theorem dX2_init_14 : decode cX2_init 14 = .ok (.iload_n 1, 1) := by decide +kernel
theorem dX2_init_15 : decode cX2_init 15 = .ok (.iconst 4, 1) := by decide +kernel
theorem dX2_init_16 : decode cX2_init 16 = .ok (.if_icmp .ge 22, 3) := by decide +kernel
theorem dX2_init_19 : decode cX2_init 19 = .ok (.aload_n 0, 1) := by decide +kernel
theorem dX2_init_20 : decode cX2_init 20 = .ok (.getfield 11, 3) := by decide +kernel
theorem dX2_init_23 : decode cX2_init 23 = .ok (.iload_n 1, 1) := by decide +kernel
theorem dX2_init_24 : decode cX2_init 24 = .ok (.new 9, 3) := by decide +kernel
theorem dX2_init_27 : decode cX2_init 27 = .ok (.dup, 1) := by decide +kernel
theorem dX2_init_28 : decode cX2_init 28 = .ok (.invokespecial 17, 3) := by decide +kernel
theorem dX2_init_31 : decode cX2_init 31 = .ok (.aastore, 1) := by decide +kernel
theorem dX2_init_32 : decode cX2_init 32 = .ok (.iinc 1 1, 3) := by decide +kernel
theorem dX2_init_35 : decode cX2_init 35 = .ok (.goto (-21), 3) := by decide +kernel
theorem dX2_init_38 : decode cX2_init 38 = .ok (.return_, 1) := by decide +kernel
theorem dX2_remember_0 : decode cX2_remember 0 = .ok (.aload_n 0, 1) := by decide +kernel
theorem dX2_remember_1 : decode cX2_remember 1 = .ok (.getfield 18, 3) := by decide +kernel
theorem dX2_remember_4 : decode cX2_remember 4 = .ok (.iconst 4, 1) := by decide +kernel
theorem dX2_remember_5 : decode cX2_remember 5 = .ok (.if_icmp .lt 7, 3) := by decide +kernel
theorem dX2_remember_8 : decode cX2_remember 8 = .ok (.aload_n 0, 1) := by decide +kernel
theorem dX2_remember_9 : decode cX2_remember 9 = .ok (.invokevirtual 22, 3) := by decide +kernel
theorem dX2_remember_12 : decode cX2_remember 12 = .ok (.aload_n 0, 1) := by decide +kernel
theorem dX2_remember_13 : decode cX2_remember 13 = .ok (.getfield 11, 3) := by decide +kernel
theorem dX2_remember_16 : decode cX2_remember 16 = .ok (.aload_n 0, 1) := by decide +kernel
theorem dX2_remember_17 : decode cX2_remember 17 = .ok (.getfield 18, 3) := by decide +kernel
theorem dX2_remember_20 : decode cX2_remember 20 = .ok (.aaload, 1) := by decide +kernel
theorem dX2_remember_21 : decode cX2_remember 21 = .ok (.aload_n 1, 1) := by decide +kernel
theorem dX2_remember_22 : decode cX2_remember 22 = .ok (.invokevirtual 25, 3) := by decide +kernel
theorem dX2_remember_25 : decode cX2_remember 25 = .ok (.aload_n 0, 1) := by decide +kernel
theorem dX2_remember_26 : decode cX2_remember 26 = .ok (.dup, 1) := by decide +kernel
theorem dX2_remember_27 : decode cX2_remember 27 = .ok (.getfield 18, 3) := by decide +kernel
theorem dX2_remember_30 : decode cX2_remember 30 = .ok (.iconst 1, 1) := by decide +kernel
theorem dX2_remember_31 : decode cX2_remember 31 = .ok (.iadd, 1) := by decide +kernel
theorem dX2_remember_32 : decode cX2_remember 32 = .ok (.putfield 18, 3) := by decide +kernel
theorem dX2_remember_35 : decode cX2_remember 35 = .ok (.return_, 1) := by decide +kernel
theorem dX2_dropOldest_0 : decode cX2_dropOldest 0 = .ok (.aload_n 0, 1) := by decide +kernel
theorem dX2_dropOldest_1 : decode cX2_dropOldest 1 = .ok (.getfield 11, 3) := by decide +kernel
theorem dX2_dropOldest_4 : decode cX2_dropOldest 4 = .ok (.iconst 0, 1) := by decide +kernel
theorem dX2_dropOldest_5 : decode cX2_dropOldest 5 = .ok (.aaload, 1) := by decide +kernel
theorem dX2_dropOldest_6 : decode cX2_dropOldest 6 = .ok (.astore_n 1, 1) := by decide +kernel
theorem dX2_dropOldest_7 : decode cX2_dropOldest 7 = .ok (.iconst 1, 1) := by decide +kernel
theorem dX2_dropOldest_8 : decode cX2_dropOldest 8 = .ok (.istore_n 2, 1) := by decide +kernel
theorem dX2_dropOldest_9 : decode cX2_dropOldest 9 = .ok (.iload_n 2, 1) := by decide +kernel
theorem dX2_dropOldest_10 : decode cX2_dropOldest 10 = .ok (.iconst 4, 1) := by decide +kernel
theorem dX2_dropOldest_11 : decode cX2_dropOldest 11 = .ok (.if_icmp .ge 23, 3) := by decide +kernel
theorem dX2_dropOldest_14 : decode cX2_dropOldest 14 = .ok (.aload_n 0, 1) := by decide +kernel
theorem dX2_dropOldest_15 : decode cX2_dropOldest 15 = .ok (.getfield 11, 3) := by decide +kernel
theorem dX2_dropOldest_18 : decode cX2_dropOldest 18 = .ok (.iload_n 2, 1) := by decide +kernel
theorem dX2_dropOldest_19 : decode cX2_dropOldest 19 = .ok (.iconst 1, 1) := by decide +kernel
theorem dX2_dropOldest_20 : decode cX2_dropOldest 20 = .ok (.isub, 1) := by decide +kernel
theorem dX2_dropOldest_21 : decode cX2_dropOldest 21 = .ok (.aload_n 0, 1) := by decide +kernel
theorem dX2_dropOldest_22 : decode cX2_dropOldest 22 = .ok (.getfield 11, 3) := by decide +kernel
theorem dX2_dropOldest_25 : decode cX2_dropOldest 25 = .ok (.iload_n 2, 1) := by decide +kernel
theorem dX2_dropOldest_26 : decode cX2_dropOldest 26 = .ok (.aaload, 1) := by decide +kernel
theorem dX2_dropOldest_27 : decode cX2_dropOldest 27 = .ok (.aastore, 1) := by decide +kernel
theorem dX2_dropOldest_28 : decode cX2_dropOldest 28 = .ok (.iinc 2 1, 3) := by decide +kernel
theorem dX2_dropOldest_31 : decode cX2_dropOldest 31 = .ok (.goto (-22), 3) := by decide +kernel
theorem dX2_dropOldest_34 : decode cX2_dropOldest 34 = .ok (.aload_n 0, 1) := by decide +kernel
theorem dX2_dropOldest_35 : decode cX2_dropOldest 35 = .ok (.getfield 11, 3) := by decide +kernel
theorem dX2_dropOldest_38 : decode cX2_dropOldest 38 = .ok (.iconst 3, 1) := by decide +kernel
theorem dX2_dropOldest_39 : decode cX2_dropOldest 39 = .ok (.aload_n 1, 1) := by decide +kernel
theorem dX2_dropOldest_40 : decode cX2_dropOldest 40 = .ok (.aastore, 1) := by decide +kernel
theorem dX2_dropOldest_41 : decode cX2_dropOldest 41 = .ok (.aload_n 0, 1) := by decide +kernel
theorem dX2_dropOldest_42 : decode cX2_dropOldest 42 = .ok (.iconst 3, 1) := by decide +kernel
theorem dX2_dropOldest_43 : decode cX2_dropOldest 43 = .ok (.putfield 18, 3) := by decide +kernel
theorem dX2_dropOldest_46 : decode cX2_dropOldest 46 = .ok (.return_, 1) := by decide +kernel
theorem dX2_recall_0 : decode cX2_recall 0 = .ok (.aload_n 0, 1) := by decide +kernel
theorem dX2_recall_1 : decode cX2_recall 1 = .ok (.getfield 18, 3) := by decide +kernel
theorem dX2_recall_4 : decode cX2_recall 4 = .ok (.ifCond .gt 4, 3) := by decide +kernel
theorem dX2_recall_7 : decode cX2_recall 7 = .ok (.return_, 1) := by decide +kernel
theorem dX2_recall_8 : decode cX2_recall 8 = .ok (.aload_n 0, 1) := by decide +kernel
theorem dX2_recall_9 : decode cX2_recall 9 = .ok (.dup, 1) := by decide +kernel
theorem dX2_recall_10 : decode cX2_recall 10 = .ok (.getfield 18, 3) := by decide +kernel
theorem dX2_recall_13 : decode cX2_recall 13 = .ok (.iconst 1, 1) := by decide +kernel
theorem dX2_recall_14 : decode cX2_recall 14 = .ok (.isub, 1) := by decide +kernel
theorem dX2_recall_15 : decode cX2_recall 15 = .ok (.putfield 18, 3) := by decide +kernel
theorem dX2_recall_18 : decode cX2_recall 18 = .ok (.aload_n 1, 1) := by decide +kernel
theorem dX2_recall_19 : decode cX2_recall 19 = .ok (.aload_n 0, 1) := by decide +kernel
theorem dX2_recall_20 : decode cX2_recall 20 = .ok (.getfield 11, 3) := by decide +kernel
theorem dX2_recall_23 : decode cX2_recall 23 = .ok (.aload_n 0, 1) := by decide +kernel
theorem dX2_recall_24 : decode cX2_recall 24 = .ok (.getfield 18, 3) := by decide +kernel
theorem dX2_recall_27 : decode cX2_recall 27 = .ok (.aaload, 1) := by decide +kernel
theorem dX2_recall_28 : decode cX2_recall 28 = .ok (.invokevirtual 25, 3) := by decide +kernel
theorem dX2_recall_31 : decode cX2_recall 31 = .ok (.return_, 1) := by decide +kernel
theorem dX3_init_0 : decode cX3_init 0 = .ok (.aload_n 0, 1) := by decide +kernel
theorem dX3_init_1 : decode cX3_init 1 = .ok (.invokespecial 3, 3) := by decide +kernel
theorem dX3_init_4 : decode cX3_init 4 = .ok (.return_, 1) := by decide +kernel
theorem dX3_forget_0 : decode cX3_forget 0 = .ok (.aload_n 0, 1) := by decide +kernel
theorem dX3_forget_1 : decode cX3_forget 1 = .ok (.iconst 0, 1) := by decide +kernel
theorem dX3_forget_2 : decode cX3_forget 2 = .ok (.putfield 9, 3) := by decide +kernel
theorem dX3_forget_5 : decode cX3_forget 5 = .ok (.aload_n 0, 1) := by decide +kernel
theorem dX3_forget_6 : decode cX3_forget 6 = .ok (.bipush (-5), 2) := by decide +kernel
theorem dX3_forget_8 : decode cX3_forget 8 = .ok (.putfield 15, 3) := by decide +kernel
theorem dX3_forget_11 : decode cX3_forget 11 = .ok (.aload_n 0, 1) := by decide +kernel
theorem dX3_forget_12 : decode cX3_forget 12 = .ok (.bipush (-5), 2) := by decide +kernel
theorem dX3_forget_14 : decode cX3_forget 14 = .ok (.putfield 18, 3) := by decide +kernel
theorem dX3_forget_17 : decode cX3_forget 17 = .ok (.aload_n 0, 1) := by decide +kernel
theorem dX3_forget_18 : decode cX3_forget 18 = .ok (.bipush (-5), 2) := by decide +kernel
theorem dX3_forget_20 : decode cX3_forget 20 = .ok (.putfield 21, 3) := by decide +kernel
theorem dX3_forget_23 : decode cX3_forget 23 = .ok (.aload_n 0, 1) := by decide +kernel
theorem dX3_forget_24 : decode cX3_forget 24 = .ok (.iconst 0, 1) := by decide +kernel
theorem dX3_forget_25 : decode cX3_forget 25 = .ok (.putfield 24, 3) := by decide +kernel
theorem dX3_forget_28 : decode cX3_forget 28 = .ok (.aload_n 0, 1) := by decide +kernel
theorem dX3_forget_29 : decode cX3_forget 29 = .ok (.iconst 0, 1) := by decide +kernel
theorem dX3_forget_30 : decode cX3_forget 30 = .ok (.putfield 27, 3) := by decide +kernel
theorem dX3_forget_33 : decode cX3_forget 33 = .ok (.return_, 1) := by decide +kernel
theorem dX3_offer_0 : decode cX3_offer 0 = .ok (.aload_n 0, 1) := by decide +kernel
theorem dX3_offer_1 : decode cX3_offer 1 = .ok (.getfield 9, 3) := by decide +kernel
theorem dX3_offer_4 : decode cX3_offer 4 = .ok (.ifCond .le 17, 3) := by decide +kernel
theorem dX3_offer_7 : decode cX3_offer 7 = .ok (.iload_n 1, 1) := by decide +kernel
theorem dX3_offer_8 : decode cX3_offer 8 = .ok (.aload_n 0, 1) := by decide +kernel
theorem dX3_offer_9 : decode cX3_offer 9 = .ok (.getfield 15, 3) := by decide +kernel
theorem dX3_offer_12 : decode cX3_offer 12 = .ok (.isub, 1) := by decide +kernel
theorem dX3_offer_13 : decode cX3_offer 13 = .ok (.invokestatic 30, 3) := by decide +kernel
theorem dX3_offer_16 : decode cX3_offer 16 = .ok (.iload_n 3, 1) := by decide +kernel
theorem dX3_offer_17 : decode cX3_offer 17 = .ok (.if_icmp .gt 4, 3) := by decide +kernel
theorem dX3_offer_20 : decode cX3_offer 20 = .ok (.return_, 1) := by decide +kernel
theorem dX3_offer_21 : decode cX3_offer 21 = .ok (.aload_n 0, 1) := by decide +kernel
theorem dX3_offer_22 : decode cX3_offer 22 = .ok (.getfield 9, 3) := by decide +kernel
theorem dX3_offer_25 : decode cX3_offer 25 = .ok (.ifCond .le 10, 3) := by decide +kernel
theorem dX3_offer_28 : decode cX3_offer 28 = .ok (.aload_n 0, 1) := by decide +kernel
theorem dX3_offer_29 : decode cX3_offer 29 = .ok (.getfield 15, 3) := by decide +kernel
theorem dX3_offer_32 : decode cX3_offer 32 = .ok (.goto 4, 3) := by decide +kernel
theorem dX3_offer_35 : decode cX3_offer 35 = .ok (.iconst 0, 1) := by decide +kernel
theorem dX3_offer_36 : decode cX3_offer 36 = .ok (.istore 4, 2) := by decide +kernel
theorem dX3_offer_38 : decode cX3_offer 38 = .ok (.iload_n 1, 1) := by decide +kernel
theorem dX3_offer_39 : decode cX3_offer 39 = .ok (.iload 4, 2) := by decide +kernel
theorem dX3_offer_41 : decode cX3_offer 41 = .ok (.if_icmp .le 26, 3) := by decide +kernel
theorem dX3_offer_44 : decode cX3_offer 44 = .ok (.aload_n 0, 1) := by decide +kernel
theorem dX3_offer_45 : decode cX3_offer 45 = .ok (.dup, 1) := by decide +kernel
theorem dX3_offer_46 : decode cX3_offer 46 = .ok (.getfield 24, 3) := by decide +kernel
theorem dX3_offer_49 : decode cX3_offer 49 = .ok (.iconst 1, 1) := by decide +kernel
theorem dX3_offer_50 : decode cX3_offer 50 = .ok (.iadd, 1) := by decide +kernel
theorem dX3_offer_51 : decode cX3_offer 51 = .ok (.putfield 24, 3) := by decide +kernel
theorem dX3_offer_54 : decode cX3_offer 54 = .ok (.aload_n 0, 1) := by decide +kernel
theorem dX3_offer_55 : decode cX3_offer 55 = .ok (.dup, 1) := by decide +kernel
theorem dX3_offer_56 : decode cX3_offer 56 = .ok (.getfield 27, 3) := by decide +kernel
theorem dX3_offer_59 : decode cX3_offer 59 = .ok (.iload_n 1, 1) := by decide +kernel
theorem dX3_offer_60 : decode cX3_offer 60 = .ok (.iload 4, 2) := by decide +kernel
theorem dX3_offer_62 : decode cX3_offer 62 = .ok (.isub, 1) := by decide +kernel
theorem dX3_offer_63 : decode cX3_offer 63 = .ok (.iadd, 1) := by decide +kernel
theorem dX3_offer_64 : decode cX3_offer 64 = .ok (.putfield 27, 3) := by decide +kernel
theorem dX3_offer_67 : decode cX3_offer 67 = .ok (.aload_n 0, 1) := by decide +kernel
theorem dX3_offer_68 : decode cX3_offer 68 = .ok (.getfield 9, 3) := by decide +kernel
theorem dX3_offer_71 : decode cX3_offer 71 = .ok (.ifCond .eq 11, 3) := by decide +kernel
theorem dX3_offer_74 : decode cX3_offer 74 = .ok (.iload_n 1, 1) := by decide +kernel
theorem dX3_offer_75 : decode cX3_offer 75 = .ok (.aload_n 0, 1) := by decide +kernel
theorem dX3_offer_76 : decode cX3_offer 76 = .ok (.getfield 18, 3) := by decide +kernel
theorem dX3_offer_79 : decode cX3_offer 79 = .ok (.if_icmp .le 13, 3) := by decide +kernel
theorem dX3_offer_82 : decode cX3_offer 82 = .ok (.aload_n 0, 1) := by decide +kernel
theorem dX3_offer_83 : decode cX3_offer 83 = .ok (.iload_n 1, 1) := by decide +kernel
theorem dX3_offer_84 : decode cX3_offer 84 = .ok (.putfield 18, 3) := by decide +kernel
theorem dX3_offer_87 : decode cX3_offer 87 = .ok (.aload_n 0, 1) := by decide +kernel
theorem dX3_offer_88 : decode cX3_offer 88 = .ok (.iload_n 2, 1) := by decide +kernel
theorem dX3_offer_89 : decode cX3_offer 89 = .ok (.putfield 21, 3) := by decide +kernel
theorem dX3_offer_92 : decode cX3_offer 92 = .ok (.aload_n 0, 1) := by decide +kernel
theorem dX3_offer_93 : decode cX3_offer 93 = .ok (.iload_n 1, 1) := by decide +kernel
theorem dX3_offer_94 : decode cX3_offer 94 = .ok (.putfield 15, 3) := by decide +kernel
theorem dX3_offer_97 : decode cX3_offer 97 = .ok (.aload_n 0, 1) := by decide +kernel
theorem dX3_offer_98 : decode cX3_offer 98 = .ok (.dup, 1) := by decide +kernel
theorem dX3_offer_99 : decode cX3_offer 99 = .ok (.getfield 9, 3) := by decide +kernel
theorem dX3_offer_102 : decode cX3_offer 102 = .ok (.iconst 1, 1) := by decide +kernel
theorem dX3_offer_103 : decode cX3_offer 103 = .ok (.iadd, 1) := by decide +kernel
theorem dX3_offer_104 : decode cX3_offer 104 = .ok (.putfield 9, 3) := by decide +kernel
theorem dX3_offer_107 : decode cX3_offer 107 = .ok (.return_, 1) := by decide +kernel
theorem dX4_init_0 : decode cX4_init 0 = .ok (.aload_n 0, 1) := by decide +kernel
theorem dX4_init_1 : decode cX4_init 1 = .ok (.invokespecial 3, 3) := by decide +kernel
theorem dX4_init_4 : decode cX4_init 4 = .ok (.aload_n 0, 1) := by decide +kernel
theorem dX4_init_5 : decode cX4_init 5 = .ok (.bipush 120, 2) := by decide +kernel
theorem dX4_init_7 : decode cX4_init 7 = .ok (.newarray .int, 2) := by decide +kernel
theorem dX4_init_9 : decode cX4_init 9 = .ok (.putfield 9, 3) := by decide +kernel
theorem dX4_init_12 : decode cX4_init 12 = .ok (.aload_n 0, 1) := by decide +kernel
theorem dX4_init_13 : decode cX4_init 13 = .ok (.bipush 120, 2) := by decide +kernel
theorem dX4_init_15 : decode cX4_init 15 = .ok (.newarray .int, 2) := by decide +kernel
theorem dX4_init_17 : decode cX4_init 17 = .ok (.putfield 15, 3) := by decide +kernel
theorem dX4_init_20 : decode cX4_init 20 = .ok (.aload_n 0, 1) := by decide +kernel
theorem dX4_init_21 : decode cX4_init 21 = .ok (.bipush 120, 2) := by decide +kernel
theorem dX4_init_23 : decode cX4_init 23 = .ok (.newarray .int, 2) := by decide +kernel
theorem dX4_init_25 : decode cX4_init 25 = .ok (.putfield 18, 3) := by decide +kernel
theorem dX4_init_28 : decode cX4_init 28 = .ok (.aload_n 0, 1) := by decide +kernel
theorem dX4_init_29 : decode cX4_init 29 = .ok (.bipush 120, 2) := by decide +kernel
theorem dX4_init_31 : decode cX4_init 31 = .ok (.newarray .boolean, 2) := by decide +kernel
theorem dX4_init_33 : decode cX4_init 33 = .ok (.putfield 21, 3) := by decide +kernel
theorem dX4_init_36 : decode cX4_init 36 = .ok (.aload_n 0, 1) := by decide +kernel
theorem dX4_init_37 : decode cX4_init 37 = .ok (.bipush 120, 2) := by decide +kernel
theorem dX4_init_39 : decode cX4_init 39 = .ok (.newarray .int, 2) := by decide +kernel
theorem dX4_init_41 : decode cX4_init 41 = .ok (.putfield 25, 3) := by decide +kernel
theorem dX4_init_44 : decode cX4_init 44 = .ok (.aload_n 0, 1) := by decide +kernel
theorem dX4_init_45 : decode cX4_init 45 = .ok (.new 28, 3) := by decide +kernel
theorem dX4_init_48 : decode cX4_init 48 = .ok (.dup, 1) := by decide +kernel
theorem dX4_init_49 : decode cX4_init 49 = .ok (.invokespecial 30, 3) := by decide +kernel
theorem dX4_init_52 : decode cX4_init 52 = .ok (.putfield 31, 3) := by decide +kernel
theorem dX4_init_55 : decode cX4_init 55 = .ok (.aload_n 0, 1) := by decide +kernel
theorem dX4_init_56 : decode cX4_init 56 = .ok (.bipush 6, 2) := by decide +kernel
theorem dX4_init_58 : decode cX4_init 58 = .ok (.newarray .int, 2) := by decide +kernel
theorem dX4_init_60 : decode cX4_init 60 = .ok (.putfield 35, 3) := by decide +kernel
theorem dX4_init_63 : decode cX4_init 63 = .ok (.aload_n 0, 1) := by decide +kernel
theorem dX4_init_64 : decode cX4_init 64 = .ok (.iconst 5, 1) := by decide +kernel
theorem dX4_init_65 : decode cX4_init 65 = .ok (.newarray .int, 2) := by decide +kernel
theorem dX4_init_67 : decode cX4_init 67 = .ok (.putfield 38, 3) := by decide +kernel
theorem dX4_init_70 : decode cX4_init 70 = .ok (.aload_n 0, 1) := by decide +kernel
theorem dX4_init_71 : decode cX4_init 71 = .ok (.iconst 5, 1) := by decide +kernel
theorem dX4_init_72 : decode cX4_init 72 = .ok (.newarray .int, 2) := by decide +kernel
theorem dX4_init_74 : decode cX4_init 74 = .ok (.putfield 41, 3) := by decide +kernel
theorem dX4_init_77 : decode cX4_init 77 = .ok (.aload_n 0, 1) := by decide +kernel
theorem dX4_init_78 : decode cX4_init 78 = .ok (.iconst 5, 1) := by decide +kernel
theorem dX4_init_79 : decode cX4_init 79 = .ok (.newarray .boolean, 2) := by decide +kernel
theorem dX4_init_81 : decode cX4_init 81 = .ok (.putfield 44, 3) := by decide +kernel
theorem dX4_init_84 : decode cX4_init 84 = .ok (.return_, 1) := by decide +kernel
theorem dX4_follow_0 : decode cX4_follow 0 = .ok (.aload_n 0, 1) := by decide +kernel
theorem dX4_follow_1 : decode cX4_follow 1 = .ok (.aload_n 1, 1) := by decide +kernel
theorem dX4_follow_2 : decode cX4_follow 2 = .ok (.iload_n 2, 1) := by decide +kernel
theorem dX4_follow_3 : decode cX4_follow 3 = .ok (.aload_n 3, 1) := by decide +kernel
theorem dX4_follow_4 : decode cX4_follow 4 = .ok (.invokevirtual 47, 3) := by decide +kernel
theorem dX4_follow_7 : decode cX4_follow 7 = .ok (.aload_n 0, 1) := by decide +kernel
theorem dX4_follow_8 : decode cX4_follow 8 = .ok (.invokevirtual 51, 3) := by decide +kernel
theorem dX4_follow_11 : decode cX4_follow 11 = .ok (.return_, 1) := by decide +kernel
theorem dX4_prepare_0 : decode cX4_prepare 0 = .ok (.aload_n 0, 1) := by decide +kernel
theorem dX4_prepare_1 : decode cX4_prepare 1 = .ok (.iload_n 2, 1) := by decide +kernel
theorem dX4_prepare_2 : decode cX4_prepare 2 = .ok (.putfield 54, 3) := by decide +kernel
theorem dX4_prepare_5 : decode cX4_prepare 5 = .ok (.aload_n 3, 1) := by decide +kernel
theorem dX4_prepare_6 : decode cX4_prepare 6 = .ok (.iconst 0, 1) := by decide +kernel
theorem dX4_prepare_7 : decode cX4_prepare 7 = .ok (.aload_n 0, 1) := by decide +kernel
theorem dX4_prepare_8 : decode cX4_prepare 8 = .ok (.getfield 35, 3) := by decide +kernel
theorem dX4_prepare_11 : decode cX4_prepare 11 = .ok (.iconst 0, 1) := by decide +kernel
theorem dX4_prepare_12 : decode cX4_prepare 12 = .ok (.bipush 6, 2) := by decide +kernel
theorem dX4_prepare_14 : decode cX4_prepare 14 = .ok (.invokestatic 58, 3) := by decide +kernel
theorem dX4_prepare_17 : decode cX4_prepare 17 = .ok (.aload_n 0, 1) := by decide +kernel
theorem dX4_prepare_18 : decode cX4_prepare 18 = .ok (.aload_n 1, 1) := by decide +kernel
theorem dX4_prepare_19 : decode cX4_prepare 19 = .ok (.getfield 64, 3) := by decide +kernel
theorem dX4_prepare_22 : decode cX4_prepare 22 = .ok (.putfield 69, 3) := by decide +kernel
theorem dX4_prepare_25 : decode cX4_prepare 25 = .ok (.iconst 0, 1) := by decide +kernel
theorem dX4_prepare_26 : decode cX4_prepare 26 = .ok (.istore 4, 2) := by decide +kernel
theorem dX4_prepare_28 : decode cX4_prepare 28 = .ok (.iconst 0, 1) := by decide +kernel
theorem dX4_prepare_29 : decode cX4_prepare 29 = .ok (.istore 5, 2) := by decide +kernel
theorem dX4_prepare_31 : decode cX4_prepare 31 = .ok (.iload 5, 2) := by decide +kernel
theorem dX4_prepare_33 : decode cX4_prepare 33 = .ok (.aload_n 0, 1) := by decide +kernel
theorem dX4_prepare_34 : decode cX4_prepare 34 = .ok (.getfield 69, 3) := by decide +kernel
theorem dX4_prepare_37 : decode cX4_prepare 37 = .ok (.if_icmp .ge 57, 3) := by decide +kernel
theorem dX4_prepare_40 : decode cX4_prepare 40 = .ok (.iload 4, 2) := by decide +kernel
theorem dX4_prepare_42 : decode cX4_prepare 42 = .ok (.aload_n 1, 1) := by decide +kernel
theorem dX4_prepare_43 : decode cX4_prepare 43 = .ok (.getfield 70, 3) := by decide +kernel
theorem dX4_prepare_46 : decode cX4_prepare 46 = .ok (.iload 5, 2) := by decide +kernel
theorem dX4_prepare_48 : decode cX4_prepare 48 = .ok (.iaload, 1) := by decide +kernel
theorem dX4_prepare_49 : decode cX4_prepare 49 = .ok (.iadd, 1) := by decide +kernel
theorem dX4_prepare_50 : decode cX4_prepare 50 = .ok (.istore 4, 2) := by decide +kernel
theorem dX4_prepare_52 : decode cX4_prepare 52 = .ok (.aload_n 0, 1) := by decide +kernel
theorem dX4_prepare_53 : decode cX4_prepare 53 = .ok (.getfield 38, 3) := by decide +kernel
theorem dX4_prepare_56 : decode cX4_prepare 56 = .ok (.iload 5, 2) := by decide +kernel
theorem dX4_prepare_58 : decode cX4_prepare 58 = .ok (.iload 4, 2) := by decide +kernel
theorem dX4_prepare_60 : decode cX4_prepare 60 = .ok (.iastore, 1) := by decide +kernel
theorem dX4_prepare_61 : decode cX4_prepare 61 = .ok (.aload_n 0, 1) := by decide +kernel
theorem dX4_prepare_62 : decode cX4_prepare 62 = .ok (.getfield 41, 3) := by decide +kernel
theorem dX4_prepare_65 : decode cX4_prepare 65 = .ok (.iload 5, 2) := by decide +kernel
theorem dX4_prepare_67 : decode cX4_prepare 67 = .ok (.aload_n 1, 1) := by decide +kernel
theorem dX4_prepare_68 : decode cX4_prepare 68 = .ok (.iload 5, 2) := by decide +kernel
theorem dX4_prepare_70 : decode cX4_prepare 70 = .ok (.invokevirtual 73, 3) := by decide +kernel
theorem dX4_prepare_73 : decode cX4_prepare 73 = .ok (.iastore, 1) := by decide +kernel
theorem dX4_prepare_74 : decode cX4_prepare 74 = .ok (.aload_n 0, 1) := by decide +kernel
theorem dX4_prepare_75 : decode cX4_prepare 75 = .ok (.getfield 44, 3) := by decide +kernel
theorem dX4_prepare_78 : decode cX4_prepare 78 = .ok (.iload 5, 2) := by decide +kernel
theorem dX4_prepare_80 : decode cX4_prepare 80 = .ok (.aload_n 1, 1) := by decide +kernel
theorem dX4_prepare_81 : decode cX4_prepare 81 = .ok (.getfield 77, 3) := by decide +kernel
theorem dX4_prepare_84 : decode cX4_prepare 84 = .ok (.iload 5, 2) := by decide +kernel
theorem dX4_prepare_86 : decode cX4_prepare 86 = .ok (.baload, 1) := by decide +kernel
