theorem dX6_run_42 : decode cX6_run 42 = .ok (.aload_n 0, 1) := by decide +kernel
theorem dX6_run_43 : decode cX6_run 43 = .ok (.getfield 10, 3) := by decide +kernel
theorem dX6_run_46 : decode cX6_run 46 = .ok (.getfield 107, 3) := by decide +kernel
theorem dX6_run_49 : decode cX6_run 49 = .ok (.invokevirtual 110, 3) := by decide +kernel
theorem dX6_run_52 : decode cX6_run 52 = .ok (.aload_n 0, 1) := by decide +kernel
theorem dX6_run_53 : decode cX6_run 53 = .ok (.getfield 36, 3) := by decide +kernel
theorem dX6_run_56 : decode cX6_run 56 = .ok (.invokevirtual 114, 3) := by decide +kernel
theorem dX6_run_59 : decode cX6_run 59 = .ok (.istore 4, 2) := by decide +kernel
theorem dX6_run_61 : decode cX6_run 61 = .ok (.aload_n 3, 1) := by decide +kernel
theorem dX6_run_62 : decode cX6_run 62 = .ok (.iload_n 2, 1) := by decide +kernel
theorem dX6_run_63 : decode cX6_run 63 = .ok (.putfield 117, 3) := by decide +kernel
theorem dX6_run_66 : decode cX6_run 66 = .ok (.aload_n 3, 1) := by decide +kernel
theorem dX6_run_67 : decode cX6_run 67 = .ok (.aload_n 0, 1) := by decide +kernel
theorem dX6_run_68 : decode cX6_run 68 = .ok (.getfield 36, 3) := by decide +kernel
theorem dX6_run_71 : decode cX6_run 71 = .ok (.invokevirtual 120, 3) := by decide +kernel
theorem dX6_run_74 : decode cX6_run 74 = .ok (.putfield 123, 3) := by decide +kernel
theorem dX6_run_77 : decode cX6_run 77 = .ok (.aload_n 3, 1) := by decide +kernel
theorem dX6_run_78 : decode cX6_run 78 = .ok (.aload_n 0, 1) := by decide +kernel
theorem dX6_run_79 : decode cX6_run 79 = .ok (.getfield 36, 3) := by decide +kernel
theorem dX6_run_82 : decode cX6_run 82 = .ok (.invokevirtual 126, 3) := by decide +kernel
theorem dX6_run_85 : decode cX6_run 85 = .ok (.putfield 129, 3) := by decide +kernel
theorem dX6_run_88 : decode cX6_run 88 = .ok (.aload_n 0, 1) := by decide +kernel
theorem dX6_run_89 : decode cX6_run 89 = .ok (.getfield 10, 3) := by decide +kernel
theorem dX6_run_92 : decode cX6_run 92 = .ok (.dup, 1) := by decide +kernel
theorem dX6_run_93 : decode cX6_run 93 = .ok (.getfield 132, 3) := by decide +kernel
theorem dX6_run_96 : decode cX6_run 96 = .ok (.iconst 1, 1) := by decide +kernel
theorem dX6_run_97 : decode cX6_run 97 = .ok (.iadd, 1) := by decide +kernel
theorem dX6_run_98 : decode cX6_run 98 = .ok (.putfield 132, 3) := by decide +kernel
theorem dX6_run_101 : decode cX6_run 101 = .ok (.iload 4, 2) := by decide +kernel
theorem dX6_run_103 : decode cX6_run 103 = .ok (.ifCond .eq 9, 3) := by decide +kernel
theorem dX6_run_106 : decode cX6_run 106 = .ok (.bipush (-10), 2) := by decide +kernel
theorem dX6_run_108 : decode cX6_run 108 = .ok (.iload 4, 2) := by decide +kernel
theorem dX6_run_110 : decode cX6_run 110 = .ok (.isub, 1) := by decide +kernel
theorem dX6_run_111 : decode cX6_run 111 = .ok (.ireturn, 1) := by decide +kernel
theorem dX6_run_112 : decode cX6_run 112 = .ok (.aload_n 0, 1) := by decide +kernel
theorem dX6_run_113 : decode cX6_run 113 = .ok (.getfield 10, 3) := by decide +kernel
theorem dX6_run_116 : decode cX6_run 116 = .ok (.dup, 1) := by decide +kernel
theorem dX6_run_117 : decode cX6_run 117 = .ok (.getfield 135, 3) := by decide +kernel
theorem dX6_run_120 : decode cX6_run 120 = .ok (.iconst 1, 1) := by decide +kernel
theorem dX6_run_121 : decode cX6_run 121 = .ok (.iadd, 1) := by decide +kernel
theorem dX6_run_122 : decode cX6_run 122 = .ok (.putfield 135, 3) := by decide +kernel
theorem dX6_run_125 : decode cX6_run 125 = .ok (.aload_n 3, 1) := by decide +kernel
theorem dX6_run_126 : decode cX6_run 126 = .ok (.getfield 123, 3) := by decide +kernel
theorem dX6_run_129 : decode cX6_run 129 = .ok (.ireturn, 1) := by decide +kernel
theorem dX6_tare_0 : decode cX6_tare 0 = .ok (.aload_n 0, 1) := by decide +kernel
theorem dX6_tare_1 : decode cX6_tare 1 = .ok (.getfield 10, 3) := by decide +kernel
theorem dX6_tare_4 : decode cX6_tare 4 = .ok (.iload_n 1, 1) := by decide +kernel
theorem dX6_tare_5 : decode cX6_tare 5 = .ok (.invokevirtual 64, 3) := by decide +kernel
theorem dX6_tare_8 : decode cX6_tare 8 = .ok (.astore_n 2, 1) := by decide +kernel
theorem dX6_tare_9 : decode cX6_tare 9 = .ok (.aload_n 2, 1) := by decide +kernel
theorem dX6_tare_10 : decode cX6_tare 10 = .ok (.ifnonnull 5, 3) := by decide +kernel
theorem dX6_tare_13 : decode cX6_tare 13 = .ok (.iconst (-1), 1) := by decide +kernel
theorem dX6_tare_14 : decode cX6_tare 14 = .ok (.ireturn, 1) := by decide +kernel
theorem dX6_tare_15 : decode cX6_tare 15 = .ok (.aload_n 2, 1) := by decide +kernel
theorem dX6_tare_16 : decode cX6_tare 16 = .ok (.getfield 123, 3) := by decide +kernel
theorem dX6_tare_19 : decode cX6_tare 19 = .ok (.bipush (-5), 2) := by decide +kernel
theorem dX6_tare_21 : decode cX6_tare 21 = .ok (.if_icmp .ne 6, 3) := by decide +kernel
theorem dX6_tare_24 : decode cX6_tare 24 = .ok (.bipush (-4), 2) := by decide +kernel
theorem dX6_tare_26 : decode cX6_tare 26 = .ok (.ireturn, 1) := by decide +kernel
theorem dX6_tare_27 : decode cX6_tare 27 = .ok (.aload_n 2, 1) := by decide +kernel
theorem dX6_tare_28 : decode cX6_tare 28 = .ok (.getfield 138, 3) := by decide +kernel
theorem dX6_tare_31 : decode cX6_tare 31 = .ok (.aload_n 2, 1) := by decide +kernel
theorem dX6_tare_32 : decode cX6_tare 32 = .ok (.getfield 123, 3) := by decide +kernel
theorem dX6_tare_35 : decode cX6_tare 35 = .ok (.if_icmp .ne 6, 3) := by decide +kernel
theorem dX6_tare_38 : decode cX6_tare 38 = .ok (.bipush (-5), 2) := by decide +kernel
theorem dX6_tare_40 : decode cX6_tare 40 = .ok (.ireturn, 1) := by decide +kernel
theorem dX6_tare_41 : decode cX6_tare 41 = .ok (.aload_n 0, 1) := by decide +kernel
theorem dX6_tare_42 : decode cX6_tare 42 = .ok (.getfield 22, 3) := by decide +kernel
theorem dX6_tare_45 : decode cX6_tare 45 = .ok (.aload_n 0, 1) := by decide +kernel
theorem dX6_tare_46 : decode cX6_tare 46 = .ok (.getfield 10, 3) := by decide +kernel
theorem dX6_tare_49 : decode cX6_tare 49 = .ok (.invokevirtual 56, 3) := by decide +kernel
theorem dX6_tare_52 : decode cX6_tare 52 = .ok (.aload_n 2, 1) := by decide +kernel
theorem dX6_tare_53 : decode cX6_tare 53 = .ok (.aload_n 2, 1) := by decide +kernel
theorem dX6_tare_54 : decode cX6_tare 54 = .ok (.getfield 123, 3) := by decide +kernel
theorem dX6_tare_57 : decode cX6_tare 57 = .ok (.putfield 138, 3) := by decide +kernel
theorem dX6_tare_60 : decode cX6_tare 60 = .ok (.aload_n 2, 1) := by decide +kernel
theorem dX6_tare_61 : decode cX6_tare 61 = .ok (.getfield 138, 3) := by decide +kernel
theorem dX6_tare_64 : decode cX6_tare 64 = .ok (.ireturn, 1) := by decide +kernel
theorem dX6_set_0 : decode cX6_set 0 = .ok (.iload_n 1, 1) := by decide +kernel
theorem dX6_set_1 : decode cX6_set 1 = .ok (.ifCond .lt 9, 3) := by decide +kernel
theorem dX6_set_4 : decode cX6_set 4 = .ok (.iload_n 1, 1) := by decide +kernel
theorem dX6_set_5 : decode cX6_set 5 = .ok (.bipush 6, 2) := by decide +kernel
theorem dX6_set_7 : decode cX6_set 7 = .ok (.if_icmp .lt 6, 3) := by decide +kernel
theorem dX6_set_10 : decode cX6_set 10 = .ok (.bipush (-2), 2) := by decide +kernel
theorem dX6_set_12 : decode cX6_set 12 = .ok (.ireturn, 1) := by decide +kernel
theorem dX6_set_13 : decode cX6_set 13 = .ok (.iload_n 2, 1) := by decide +kernel
theorem dX6_set_14 : decode cX6_set 14 = .ok (.getstatic 141, 3) := by decide +kernel
theorem dX6_set_17 : decode cX6_set 17 = .ok (.iload_n 1, 1) := by decide +kernel
theorem dX6_set_18 : decode cX6_set 18 = .ok (.iaload, 1) := by decide +kernel
theorem dX6_set_19 : decode cX6_set 19 = .ok (.if_icmp .lt 12, 3) := by decide +kernel
theorem dX6_set_22 : decode cX6_set 22 = .ok (.iload_n 2, 1) := by decide +kernel
theorem dX6_set_23 : decode cX6_set 23 = .ok (.getstatic 144, 3) := by decide +kernel
theorem dX6_set_26 : decode cX6_set 26 = .ok (.iload_n 1, 1) := by decide +kernel
theorem dX6_set_27 : decode cX6_set 27 = .ok (.iaload, 1) := by decide +kernel
theorem dX6_set_28 : decode cX6_set 28 = .ok (.if_icmp .le 6, 3) := by decide +kernel
theorem dX6_set_31 : decode cX6_set 31 = .ok (.bipush (-2), 2) := by decide +kernel
theorem dX6_set_33 : decode cX6_set 33 = .ok (.ireturn, 1) := by decide +kernel
theorem dX6_set_34 : decode cX6_set 34 = .ok (.aload_n 0, 1) := by decide +kernel
theorem dX6_set_35 : decode cX6_set 35 = .ok (.getfield 10, 3) := by decide +kernel
theorem dX6_set_38 : decode cX6_set 38 = .ok (.getfield 107, 3) := by decide +kernel
theorem dX6_set_41 : decode cX6_set 41 = .ok (.iload_n 1, 1) := by decide +kernel
theorem dX6_set_42 : decode cX6_set 42 = .ok (.iaload, 1) := by decide +kernel
theorem dX6_set_43 : decode cX6_set 43 = .ok (.istore_n 3, 1) := by decide +kernel
theorem dX6_set_44 : decode cX6_set 44 = .ok (.iload_n 3, 1) := by decide +kernel
theorem dX6_set_45 : decode cX6_set 45 = .ok (.iload_n 2, 1) := by decide +kernel
theorem dX6_set_46 : decode cX6_set 46 = .ok (.if_icmp .ne 6, 3) := by decide +kernel
theorem dX6_set_49 : decode cX6_set 49 = .ok (.bipush (-5), 2) := by decide +kernel
theorem dX6_set_51 : decode cX6_set 51 = .ok (.ireturn, 1) := by decide +kernel
theorem dX6_set_52 : decode cX6_set 52 = .ok (.aload_n 0, 1) := by decide +kernel
theorem dX6_set_53 : decode cX6_set 53 = .ok (.getfield 22, 3) := by decide +kernel
theorem dX6_set_56 : decode cX6_set 56 = .ok (.aload_n 0, 1) := by decide +kernel
theorem dX6_set_57 : decode cX6_set 57 = .ok (.getfield 10, 3) := by decide +kernel
theorem dX6_set_60 : decode cX6_set 60 = .ok (.invokevirtual 56, 3) := by decide +kernel
theorem dX6_set_63 : decode cX6_set 63 = .ok (.aload_n 0, 1) := by decide +kernel
theorem dX6_set_64 : decode cX6_set 64 = .ok (.getfield 10, 3) := by decide +kernel
theorem dX6_set_67 : decode cX6_set 67 = .ok (.getfield 107, 3) := by decide +kernel
theorem dX6_set_70 : decode cX6_set 70 = .ok (.iload_n 1, 1) := by decide +kernel
theorem dX6_set_71 : decode cX6_set 71 = .ok (.iload_n 2, 1) := by decide +kernel
theorem dX6_set_72 : decode cX6_set 72 = .ok (.iastore, 1) := by decide +kernel
theorem dX6_set_73 : decode cX6_set 73 = .ok (.iload_n 3, 1) := by decide +kernel
theorem dX6_set_74 : decode cX6_set 74 = .ok (.ireturn, 1) := by decide +kernel
theorem dX6_type_0 : decode cX6_type 0 = .ok (.aload_n 0, 1) := by decide +kernel
theorem dX6_type_1 : decode cX6_type 1 = .ok (.getfield 29, 3) := by decide +kernel
theorem dX6_type_4 : decode cX6_type 4 = .ok (.iload_n 1, 1) := by decide +kernel
theorem dX6_type_5 : decode cX6_type 5 = .ok (.invokevirtual 147, 3) := by decide +kernel
theorem dX6_type_8 : decode cX6_type 8 = .ok (.ifCond .eq 13, 3) := by decide +kernel
theorem dX6_type_11 : decode cX6_type 11 = .ok (.aload_n 0, 1) := by decide +kernel
theorem dX6_type_12 : decode cX6_type 12 = .ok (.getfield 29, 3) := by decide +kernel
theorem dX6_type_15 : decode cX6_type 15 = .ok (.getfield 151, 3) := by decide +kernel
theorem dX6_type_18 : decode cX6_type 18 = .ok (.goto 5, 3) := by decide +kernel
theorem dX6_type_21 : decode cX6_type 21 = .ok (.bipush (-3), 2) := by decide +kernel
theorem dX6_type_23 : decode cX6_type 23 = .ok (.ireturn, 1) := by decide +kernel
theorem dX6_clearText_0 : decode cX6_clearText 0 = .ok (.aload_n 0, 1) := by decide +kernel
theorem dX6_clearText_1 : decode cX6_clearText 1 = .ok (.getfield 29, 3) := by decide +kernel
theorem dX6_clearText_4 : decode cX6_clearText 4 = .ok (.getfield 151, 3) := by decide +kernel
theorem dX6_clearText_7 : decode cX6_clearText 7 = .ok (.istore_n 1, 1) := by decide +kernel
theorem dX6_clearText_8 : decode cX6_clearText 8 = .ok (.aload_n 0, 1) := by decide +kernel
theorem dX6_clearText_9 : decode cX6_clearText 9 = .ok (.getfield 29, 3) := by decide +kernel
theorem dX6_clearText_12 : decode cX6_clearText 12 = .ok (.iconst 0, 1) := by decide +kernel
theorem dX6_clearText_13 : decode cX6_clearText 13 = .ok (.putfield 151, 3) := by decide +kernel
theorem dX6_clearText_16 : decode cX6_clearText 16 = .ok (.iload_n 1, 1) := by decide +kernel
theorem dX6_clearText_17 : decode cX6_clearText 17 = .ok (.ireturn, 1) := by decide +kernel
theorem dX6_fault_0 : decode cX6_fault 0 = .ok (.aload_n 0, 1) := by decide +kernel
theorem dX6_fault_1 : decode cX6_fault 1 = .ok (.getfield 29, 3) := by decide +kernel
theorem dX6_fault_4 : decode cX6_fault 4 = .ok (.invokevirtual 94, 3) := by decide +kernel
theorem dX6_fault_7 : decode cX6_fault 7 = .ok (.aload_n 0, 1) := by decide +kernel
theorem dX6_fault_8 : decode cX6_fault 8 = .ok (.getfield 29, 3) := by decide +kernel
theorem dX6_fault_11 : decode cX6_fault 11 = .ok (.getfield 97, 3) := by decide +kernel
theorem dX6_fault_14 : decode cX6_fault 14 = .ok (.ireturn, 1) := by decide +kernel
theorem dX6_undo_0 : decode cX6_undo 0 = .ok (.aload_n 0, 1) := by decide +kernel
theorem dX6_undo_1 : decode cX6_undo 1 = .ok (.getfield 22, 3) := by decide +kernel
theorem dX6_undo_4 : decode cX6_undo 4 = .ok (.getfield 154, 3) := by decide +kernel
theorem dX6_undo_7 : decode cX6_undo 7 = .ok (.ifCond .ne 6, 3) := by decide +kernel
theorem dX6_undo_10 : decode cX6_undo 10 = .ok (.bipush (-5), 2) := by decide +kernel
theorem dX6_undo_12 : decode cX6_undo 12 = .ok (.ireturn, 1) := by decide +kernel
theorem dX6_undo_13 : decode cX6_undo 13 = .ok (.aload_n 0, 1) := by decide +kernel
theorem dX6_undo_14 : decode cX6_undo 14 = .ok (.getfield 22, 3) := by decide +kernel
theorem dX6_undo_17 : decode cX6_undo 17 = .ok (.aload_n 0, 1) := by decide +kernel
theorem dX6_undo_18 : decode cX6_undo 18 = .ok (.getfield 10, 3) := by decide +kernel
theorem dX6_undo_21 : decode cX6_undo 21 = .ok (.invokevirtual 157, 3) := by decide +kernel
theorem dX6_undo_24 : decode cX6_undo 24 = .ok (.aload_n 0, 1) := by decide +kernel
theorem dX6_undo_25 : decode cX6_undo 25 = .ok (.getfield 22, 3) := by decide +kernel
theorem dX6_undo_28 : decode cX6_undo 28 = .ok (.getfield 154, 3) := by decide +kernel
theorem dX6_undo_31 : decode cX6_undo 31 = .ok (.ireturn, 1) := by decide +kernel
theorem dX6_keep_0 : decode cX6_keep 0 = .ok (.aload_n 0, 1) := by decide +kernel
theorem dX6_keep_1 : decode cX6_keep 1 = .ok (.getfield 16, 3) := by decide +kernel
theorem dX6_keep_4 : decode cX6_keep 4 = .ok (.aload_n 0, 1) := by decide +kernel
theorem dX6_keep_5 : decode cX6_keep 5 = .ok (.getfield 10, 3) := by decide +kernel
theorem dX6_keep_8 : decode cX6_keep 8 = .ok (.invokevirtual 160, 3) := by decide +kernel
theorem dX6_keep_11 : decode cX6_keep 11 = .ok (.aload_n 0, 1) := by decide +kernel
theorem dX6_keep_12 : decode cX6_keep 12 = .ok (.iconst 1, 1) := by decide +kernel
theorem dX6_keep_13 : decode cX6_keep 13 = .ok (.putfield 44, 3) := by decide +kernel
theorem dX6_keep_16 : decode cX6_keep 16 = .ok (.aload_n 0, 1) := by decide +kernel
theorem dX6_keep_17 : decode cX6_keep 17 = .ok (.getfield 10, 3) := by decide +kernel
theorem dX6_keep_20 : decode cX6_keep 20 = .ok (.getfield 52, 3) := by decide +kernel
theorem dX6_keep_23 : decode cX6_keep 23 = .ok (.ireturn, 1) := by decide +kernel
theorem dX6_restore_0 : decode cX6_restore 0 = .ok (.aload_n 0, 1) := by decide +kernel
theorem dX6_restore_1 : decode cX6_restore 1 = .ok (.getfield 44, 3) := by decide +kernel
theorem dX6_restore_4 : decode cX6_restore 4 = .ok (.ifCond .ne 6, 3) := by decide +kernel
theorem dX6_restore_7 : decode cX6_restore 7 = .ok (.bipush (-5), 2) := by decide +kernel
theorem dX6_restore_9 : decode cX6_restore 9 = .ok (.ireturn, 1) := by decide +kernel
theorem dX6_restore_10 : decode cX6_restore 10 = .ok (.aload_n 0, 1) := by decide +kernel
theorem dX6_restore_11 : decode cX6_restore 11 = .ok (.getfield 22, 3) := by decide +kernel
theorem dX6_restore_14 : decode cX6_restore 14 = .ok (.aload_n 0, 1) := by decide +kernel
theorem dX6_restore_15 : decode cX6_restore 15 = .ok (.getfield 10, 3) := by decide +kernel
theorem dX6_restore_18 : decode cX6_restore 18 = .ok (.invokevirtual 56, 3) := by decide +kernel
theorem dX6_restore_21 : decode cX6_restore 21 = .ok (.aload_n 0, 1) := by decide +kernel
theorem dX6_restore_22 : decode cX6_restore 22 = .ok (.getfield 10, 3) := by decide +kernel
theorem dX6_restore_25 : decode cX6_restore 25 = .ok (.aload_n 0, 1) := by decide +kernel
theorem dX6_restore_26 : decode cX6_restore 26 = .ok (.getfield 16, 3) := by decide +kernel
theorem dX6_restore_29 : decode cX6_restore 29 = .ok (.invokevirtual 160, 3) := by decide +kernel
theorem dX6_restore_32 : decode cX6_restore 32 = .ok (.aload_n 0, 1) := by decide +kernel
theorem dX6_restore_33 : decode cX6_restore 33 = .ok (.getfield 10, 3) := by decide +kernel
theorem dX6_restore_36 : decode cX6_restore 36 = .ok (.getfield 52, 3) := by decide +kernel
theorem dX6_restore_39 : decode cX6_restore 39 = .ok (.ireturn, 1) := by decide +kernel
theorem dX6_cartOf_0 : decode cX6_cartOf 0 = .ok (.aload_n 0, 1) := by decide +kernel
theorem dX6_cartOf_1 : decode cX6_cartOf 1 = .ok (.getfield 10, 3) := by decide +kernel
theorem dX6_cartOf_4 : decode cX6_cartOf 4 = .ok (.iload_n 1, 1) := by decide +kernel
theorem dX6_cartOf_5 : decode cX6_cartOf 5 = .ok (.invokevirtual 64, 3) := by decide +kernel
theorem dX6_cartOf_8 : decode cX6_cartOf 8 = .ok (.astore_n 3, 1) := by decide +kernel
theorem dX6_cartOf_9 : decode cX6_cartOf 9 = .ok (.aload_n 3, 1) := by decide +kernel
theorem dX6_cartOf_10 : decode cX6_cartOf 10 = .ok (.ifnonnull 5, 3) := by decide +kernel
theorem dX6_cartOf_13 : decode cX6_cartOf 13 = .ok (.iconst (-1), 1) := by decide +kernel
theorem dX6_cartOf_14 : decode cX6_cartOf 14 = .ok (.ireturn, 1) := by decide +kernel
theorem dX6_cartOf_15 : decode cX6_cartOf 15 = .ok (.iload_n 2, 1) := by decide +kernel
theorem dX6_cartOf_16 : decode cX6_cartOf 16 = .ok (.tableswitch 97 0 8 #[52, 57, 62, 67, 72, 77, 82, 87, 92], 52) := by decide +kernel
theorem dX6_cartOf_68 : decode cX6_cartOf 68 = .ok (.aload_n 3, 1) := by decide +kernel
theorem dX6_cartOf_69 : decode cX6_cartOf 69 = .ok (.getfield 71, 3) := by decide +kernel
theorem dX6_cartOf_72 : decode cX6_cartOf 72 = .ok (.ireturn, 1) := by decide +kernel
theorem dX6_cartOf_73 : decode cX6_cartOf 73 = .ok (.aload_n 3, 1) := by decide +kernel
theorem dX6_cartOf_74 : decode cX6_cartOf 74 = .ok (.invokevirtual 90, 3) := by decide +kernel
theorem dX6_cartOf_77 : decode cX6_cartOf 77 = .ok (.ireturn, 1) := by decide +kernel
theorem dX6_cartOf_78 : decode cX6_cartOf 78 = .ok (.aload_n 3, 1) := by decide +kernel
theorem dX6_cartOf_79 : decode cX6_cartOf 79 = .ok (.invokevirtual 163, 3) := by decide +kernel
theorem dX6_cartOf_82 : decode cX6_cartOf 82 = .ok (.ireturn, 1) := by decide +kernel
theorem dX6_cartOf_83 : decode cX6_cartOf 83 = .ok (.aload_n 3, 1) := by decide +kernel
theorem dX6_cartOf_84 : decode cX6_cartOf 84 = .ok (.invokevirtual 166, 3) := by decide +kernel
theorem dX6_cartOf_87 : decode cX6_cartOf 87 = .ok (.ireturn, 1) := by decide +kernel
theorem dX6_cartOf_88 : decode cX6_cartOf 88 = .ok (.aload_n 3, 1) := by decide +kernel
theorem dX6_cartOf_89 : decode cX6_cartOf 89 = .ok (.getfield 138, 3) := by decide +kernel
theorem dX6_cartOf_92 : decode cX6_cartOf 92 = .ok (.ireturn, 1) := by decide +kernel
theorem dX6_cartOf_93 : decode cX6_cartOf 93 = .ok (.aload_n 3, 1) := by decide +kernel
theorem dX6_cartOf_94 : decode cX6_cartOf 94 = .ok (.getfield 123, 3) := by decide +kernel
theorem dX6_cartOf_97 : decode cX6_cartOf 97 = .ok (.ireturn, 1) := by decide +kernel
theorem dX6_cartOf_98 : decode cX6_cartOf 98 = .ok (.aload_n 3, 1) := by decide +kernel
theorem dX6_cartOf_99 : decode cX6_cartOf 99 = .ok (.invokevirtual 169, 3) := by decide +kernel
theorem dX6_cartOf_102 : decode cX6_cartOf 102 = .ok (.ireturn, 1) := by decide +kernel
theorem dX6_cartOf_103 : decode cX6_cartOf 103 = .ok (.aload_n 3, 1) := by decide +kernel
theorem dX6_cartOf_104 : decode cX6_cartOf 104 = .ok (.getfield 117, 3) := by decide +kernel
theorem dX6_cartOf_107 : decode cX6_cartOf 107 = .ok (.ireturn, 1) := by decide +kernel
theorem dX6_cartOf_108 : decode cX6_cartOf 108 = .ok (.aload_n 3, 1) := by decide +kernel
theorem dX6_cartOf_109 : decode cX6_cartOf 109 = .ok (.getfield 129, 3) := by decide +kernel
theorem dX6_cartOf_112 : decode cX6_cartOf 112 = .ok (.ireturn, 1) := by decide +kernel
theorem dX6_cartOf_113 : decode cX6_cartOf 113 = .ok (.bipush (-2), 2) := by decide +kernel
theorem dX6_cartOf_115 : decode cX6_cartOf 115 = .ok (.ireturn, 1) := by decide +kernel
theorem dX6_axleOf_0 : decode cX6_axleOf 0 = .ok (.aload_n 0, 1) := by decide +kernel
theorem dX6_axleOf_1 : decode cX6_axleOf 1 = .ok (.getfield 10, 3) := by decide +kernel
theorem dX6_axleOf_4 : decode cX6_axleOf 4 = .ok (.iload_n 1, 1) := by decide +kernel
theorem dX6_axleOf_5 : decode cX6_axleOf 5 = .ok (.invokevirtual 64, 3) := by decide +kernel
theorem dX6_axleOf_8 : decode cX6_axleOf 8 = .ok (.astore 4, 2) := by decide +kernel
theorem dX6_axleOf_10 : decode cX6_axleOf 10 = .ok (.aload 4, 2) := by decide +kernel
theorem dX6_axleOf_12 : decode cX6_axleOf 12 = .ok (.ifnull 12, 3) := by decide +kernel
theorem dX6_axleOf_15 : decode cX6_axleOf 15 = .ok (.aload 4, 2) := by decide +kernel
theorem dX6_axleOf_17 : decode cX6_axleOf 17 = .ok (.iload_n 2, 1) := by decide +kernel
theorem dX6_axleOf_18 : decode cX6_axleOf 18 = .ok (.invokevirtual 80, 3) := by decide +kernel
theorem dX6_axleOf_21 : decode cX6_axleOf 21 = .ok (.ifCond .ne 5, 3) := by decide +kernel
theorem dX6_axleOf_24 : decode cX6_axleOf 24 = .ok (.iconst (-1), 1) := by decide +kernel
theorem dX6_axleOf_25 : decode cX6_axleOf 25 = .ok (.ireturn, 1) := by decide +kernel
theorem dX6_axleOf_26 : decode cX6_axleOf 26 = .ok (.iload_n 3, 1) := by decide +kernel
theorem dX6_axleOf_27 : decode cX6_axleOf 27 = .ok (.tableswitch 68 0 3 #[29, 37, 45, 61], 29) := by decide +kernel
theorem dX6_axleOf_56 : decode cX6_axleOf 56 = .ok (.aload 4, 2) := by decide +kernel
theorem dX6_axleOf_58 : decode cX6_axleOf 58 = .ok (.getfield 83, 3) := by decide +kernel
theorem dX6_axleOf_61 : decode cX6_axleOf 61 = .ok (.iload_n 2, 1) := by decide +kernel
theorem dX6_axleOf_62 : decode cX6_axleOf 62 = .ok (.iaload, 1) := by decide +kernel
theorem dX6_axleOf_63 : decode cX6_axleOf 63 = .ok (.ireturn, 1) := by decide +kernel
theorem dX6_axleOf_64 : decode cX6_axleOf 64 = .ok (.aload 4, 2) := by decide +kernel
theorem dX6_axleOf_66 : decode cX6_axleOf 66 = .ok (.getfield 172, 3) := by decide +kernel
theorem dX6_axleOf_69 : decode cX6_axleOf 69 = .ok (.iload_n 2, 1) := by decide +kernel
theorem dX6_axleOf_70 : decode cX6_axleOf 70 = .ok (.iaload, 1) := by decide +kernel
theorem dX6_axleOf_71 : decode cX6_axleOf 71 = .ok (.ireturn, 1) := by decide +kernel
theorem dX6_axleOf_72 : decode cX6_axleOf 72 = .ok (.aload 4, 2) := by decide +kernel
theorem dX6_axleOf_74 : decode cX6_axleOf 74 = .ok (.getfield 86, 3) := by decide +kernel
theorem dX6_axleOf_77 : decode cX6_axleOf 77 = .ok (.iload_n 2, 1) := by decide +kernel
theorem dX6_axleOf_78 : decode cX6_axleOf 78 = .ok (.baload, 1) := by decide +kernel
theorem dX6_axleOf_79 : decode cX6_axleOf 79 = .ok (.ifCond .eq 7, 3) := by decide +kernel
theorem dX6_axleOf_82 : decode cX6_axleOf 82 = .ok (.iconst 1, 1) := by decide +kernel
theorem dX6_axleOf_83 : decode cX6_axleOf 83 = .ok (.goto 4, 3) := by decide +kernel
theorem dX6_axleOf_86 : decode cX6_axleOf 86 = .ok (.iconst 0, 1) := by decide +kernel
theorem dX6_axleOf_87 : decode cX6_axleOf 87 = .ok (.ireturn, 1) := by decide +kernel
theorem dX6_axleOf_88 : decode cX6_axleOf 88 = .ok (.aload 4, 2) := by decide +kernel
theorem dX6_axleOf_90 : decode cX6_axleOf 90 = .ok (.iload_n 2, 1) := by decide +kernel
theorem dX6_axleOf_91 : decode cX6_axleOf 91 = .ok (.invokevirtual 175, 3) := by decide +kernel
theorem dX6_axleOf_94 : decode cX6_axleOf 94 = .ok (.ireturn, 1) := by decide +kernel
theorem dX6_axleOf_95 : decode cX6_axleOf 95 = .ok (.bipush (-2), 2) := by decide +kernel
theorem dX6_axleOf_97 : decode cX6_axleOf 97 = .ok (.ireturn, 1) := by decide +kernel
theorem dX6_tick_0 : decode cX6_tick 0 = .ok (.aload_n 0, 1) := by decide +kernel
theorem dX6_tick_1 : decode cX6_tick 1 = .ok (.getfield 10, 3) := by decide +kernel
theorem dX6_tick_4 : decode cX6_tick 4 = .ok (.iload_n 1, 1) := by decide +kernel
theorem dX6_tick_5 : decode cX6_tick 5 = .ok (.invokevirtual 64, 3) := by decide +kernel
theorem dX6_tick_8 : decode cX6_tick 8 = .ok (.astore 5, 2) := by decide +kernel
theorem dX6_tick_10 : decode cX6_tick 10 = .ok (.aload 5, 2) := by decide +kernel
theorem dX6_tick_12 : decode cX6_tick 12 = .ok (.ifnonnull 5, 3) := by decide +kernel
theorem dX6_tick_15 : decode cX6_tick 15 = .ok (.iconst (-1), 1) := by decide +kernel
theorem dX6_tick_16 : decode cX6_tick 16 = .ok (.ireturn, 1) := by decide +kernel
theorem dX6_tick_17 : decode cX6_tick 17 = .ok (.iload_n 2, 1) := by decide +kernel
theorem dX6_tick_18 : decode cX6_tick 18 = .ok (.invokestatic 104, 3) := by decide +kernel
theorem dX6_tick_21 : decode cX6_tick 21 = .ok (.ifCond .ne 6, 3) := by decide +kernel
theorem dX6_tick_24 : decode cX6_tick 24 = .ok (.bipush (-2), 2) := by decide +kernel
theorem dX6_tick_26 : decode cX6_tick 26 = .ok (.ireturn, 1) := by decide +kernel
theorem dX6_tick_27 : decode cX6_tick 27 = .ok (.aload_n 0, 1) := by decide +kernel
theorem dX6_tick_28 : decode cX6_tick 28 = .ok (.getfield 36, 3) := by decide +kernel
theorem dX6_tick_31 : decode cX6_tick 31 = .ok (.aload 5, 2) := by decide +kernel
theorem dX6_tick_33 : decode cX6_tick 33 = .ok (.iload_n 2, 1) := by decide +kernel
theorem dX6_tick_34 : decode cX6_tick 34 = .ok (.aload_n 0, 1) := by decide +kernel
theorem dX6_tick_35 : decode cX6_tick 35 = .ok (.getfield 10, 3) := by decide +kernel
theorem dX6_tick_38 : decode cX6_tick 38 = .ok (.getfield 107, 3) := by decide +kernel
theorem dX6_tick_41 : decode cX6_tick 41 = .ok (.invokevirtual 179, 3) := by decide +kernel
theorem dX6_tick_44 : decode cX6_tick 44 = .ok (.iload_n 3, 1) := by decide +kernel
theorem dX6_tick_45 : decode cX6_tick 45 = .ok (.ifCond .lt 14, 3) := by decide +kernel
theorem dX6_tick_48 : decode cX6_tick 48 = .ok (.iload_n 3, 1) := by decide +kernel
theorem dX6_tick_49 : decode cX6_tick 49 = .ok (.aload_n 0, 1) := by decide +kernel
theorem dX6_tick_50 : decode cX6_tick 50 = .ok (.getfield 36, 3) := by decide +kernel
theorem dX6_tick_53 : decode cX6_tick 53 = .ok (.invokevirtual 182, 3) := by decide +kernel
theorem dX6_tick_56 : decode cX6_tick 56 = .ok (.if_icmp .lt 5, 3) := by decide +kernel
theorem dX6_tick_59 : decode cX6_tick 59 = .ok (.iconst (-1), 1) := by decide +kernel
theorem dX6_tick_60 : decode cX6_tick 60 = .ok (.ireturn, 1) := by decide +kernel
theorem dX6_tick_61 : decode cX6_tick 61 = .ok (.aload_n 0, 1) := by decide +kernel
theorem dX6_tick_62 : decode cX6_tick 62 = .ok (.getfield 36, 3) := by decide +kernel
theorem dX6_tick_65 : decode cX6_tick 65 = .ok (.invokevirtual 185, 3) := by decide +kernel
theorem dX6_tick_68 : decode cX6_tick 68 = .ok (.iload 4, 2) := by decide +kernel
theorem dX6_tick_70 : decode cX6_tick 70 = .ok (.tableswitch 92 0 4 #[34, 44, 54, 64, 82], 34) := by decide +kernel
theorem dX6_tick_104 : decode cX6_tick 104 = .ok (.aload_n 0, 1) := by decide +kernel
theorem dX6_tick_105 : decode cX6_tick 105 = .ok (.getfield 36, 3) := by decide +kernel
theorem dX6_tick_108 : decode cX6_tick 108 = .ok (.getfield 188, 3) := by decide +kernel
theorem dX6_tick_111 : decode cX6_tick 111 = .ok (.iload_n 3, 1) := by decide +kernel
theorem dX6_tick_112 : decode cX6_tick 112 = .ok (.iaload, 1) := by decide +kernel
theorem dX6_tick_113 : decode cX6_tick 113 = .ok (.ireturn, 1) := by decide +kernel
theorem dX6_tick_114 : decode cX6_tick 114 = .ok (.aload_n 0, 1) := by decide +kernel
theorem dX6_tick_115 : decode cX6_tick 115 = .ok (.getfield 36, 3) := by decide +kernel
theorem dX6_tick_118 : decode cX6_tick 118 = .ok (.getfield 191, 3) := by decide +kernel
theorem dX6_tick_121 : decode cX6_tick 121 = .ok (.iload_n 3, 1) := by decide +kernel
theorem dX6_tick_122 : decode cX6_tick 122 = .ok (.iaload, 1) := by decide +kernel
theorem dX6_tick_123 : decode cX6_tick 123 = .ok (.ireturn, 1) := by decide +kernel
theorem dX6_tick_124 : decode cX6_tick 124 = .ok (.aload_n 0, 1) := by decide +kernel
theorem dX6_tick_125 : decode cX6_tick 125 = .ok (.getfield 36, 3) := by decide +kernel
theorem dX6_tick_128 : decode cX6_tick 128 = .ok (.getfield 194, 3) := by decide +kernel
theorem dX6_tick_131 : decode cX6_tick 131 = .ok (.iload_n 3, 1) := by decide +kernel
theorem dX6_tick_132 : decode cX6_tick 132 = .ok (.iaload, 1) := by decide +kernel
theorem dX6_tick_133 : decode cX6_tick 133 = .ok (.ireturn, 1) := by decide +kernel
theorem dX6_tick_134 : decode cX6_tick 134 = .ok (.aload_n 0, 1) := by decide +kernel
theorem dX6_tick_135 : decode cX6_tick 135 = .ok (.getfield 36, 3) := by decide +kernel
theorem dX6_tick_138 : decode cX6_tick 138 = .ok (.getfield 197, 3) := by decide +kernel
theorem dX6_tick_141 : decode cX6_tick 141 = .ok (.iload_n 3, 1) := by decide +kernel
theorem dX6_tick_142 : decode cX6_tick 142 = .ok (.baload, 1) := by decide +kernel
theorem dX6_tick_143 : decode cX6_tick 143 = .ok (.ifCond .eq 7, 3) := by decide +kernel
theorem dX6_tick_146 : decode cX6_tick 146 = .ok (.iconst 1, 1) := by decide +kernel
theorem dX6_tick_147 : decode cX6_tick 147 = .ok (.goto 4, 3) := by decide +kernel
theorem dX6_tick_150 : decode cX6_tick 150 = .ok (.iconst 0, 1) := by decide +kernel
theorem dX6_tick_151 : decode cX6_tick 151 = .ok (.ireturn, 1) := by decide +kernel
theorem dX6_tick_152 : decode cX6_tick 152 = .ok (.aload_n 0, 1) := by decide +kernel
theorem dX6_tick_153 : decode cX6_tick 153 = .ok (.getfield 36, 3) := by decide +kernel
theorem dX6_tick_156 : decode cX6_tick 156 = .ok (.getfield 200, 3) := by decide +kernel
theorem dX6_tick_159 : decode cX6_tick 159 = .ok (.iload_n 3, 1) := by decide +kernel
theorem dX6_tick_160 : decode cX6_tick 160 = .ok (.iaload, 1) := by decide +kernel
theorem dX6_tick_161 : decode cX6_tick 161 = .ok (.ireturn, 1) := by decide +kernel
theorem dX6_tick_162 : decode cX6_tick 162 = .ok (.bipush (-2), 2) := by decide +kernel
theorem dX6_tick_164 : decode cX6_tick 164 = .ok (.ireturn, 1) := by decide +kernel
theorem dX6_runOf_0 : decode cX6_runOf 0 = .ok (.aload_n 0, 1) := by decide +kernel
theorem dX6_runOf_1 : decode cX6_runOf 1 = .ok (.getfield 10, 3) := by decide +kernel
theorem dX6_runOf_4 : decode cX6_runOf 4 = .ok (.iload_n 1, 1) := by decide +kernel
theorem dX6_runOf_5 : decode cX6_runOf 5 = .ok (.invokevirtual 64, 3) := by decide +kernel
theorem dX6_runOf_8 : decode cX6_runOf 8 = .ok (.astore 4, 2) := by decide +kernel
theorem dX6_runOf_10 : decode cX6_runOf 10 = .ok (.aload 4, 2) := by decide +kernel
theorem dX6_runOf_12 : decode cX6_runOf 12 = .ok (.ifnonnull 5, 3) := by decide +kernel
theorem dX6_runOf_15 : decode cX6_runOf 15 = .ok (.iconst (-1), 1) := by decide +kernel
theorem dX6_runOf_16 : decode cX6_runOf 16 = .ok (.ireturn, 1) := by decide +kernel
theorem dX6_runOf_17 : decode cX6_runOf 17 = .ok (.iload_n 2, 1) := by decide +kernel
theorem dX6_runOf_18 : decode cX6_runOf 18 = .ok (.invokestatic 104, 3) := by decide +kernel
theorem dX6_runOf_21 : decode cX6_runOf 21 = .ok (.ifCond .ne 6, 3) := by decide +kernel
theorem dX6_runOf_24 : decode cX6_runOf 24 = .ok (.bipush (-2), 2) := by decide +kernel
theorem dX6_runOf_26 : decode cX6_runOf 26 = .ok (.ireturn, 1) := by decide +kernel
theorem dX6_runOf_27 : decode cX6_runOf 27 = .ok (.aload_n 0, 1) := by decide +kernel
theorem dX6_runOf_28 : decode cX6_runOf 28 = .ok (.getfield 36, 3) := by decide +kernel
theorem dX6_runOf_31 : decode cX6_runOf 31 = .ok (.aload 4, 2) := by decide +kernel
theorem dX6_runOf_33 : decode cX6_runOf 33 = .ok (.iload_n 2, 1) := by decide +kernel
theorem dX6_runOf_34 : decode cX6_runOf 34 = .ok (.aload_n 0, 1) := by decide +kernel
theorem dX6_runOf_35 : decode cX6_runOf 35 = .ok (.getfield 10, 3) := by decide +kernel
theorem dX6_runOf_38 : decode cX6_runOf 38 = .ok (.getfield 107, 3) := by decide +kernel
theorem dX6_runOf_41 : decode cX6_runOf 41 = .ok (.invokevirtual 110, 3) := by decide +kernel
theorem dX6_runOf_44 : decode cX6_runOf 44 = .ok (.iload_n 3, 1) := by decide +kernel
theorem dX6_runOf_45 : decode cX6_runOf 45 = .ok (.tableswitch 132 0 8 #[51, 59, 67, 75, 86, 97, 105, 113, 121], 51) := by decide +kernel
theorem dX6_runOf_96 : decode cX6_runOf 96 = .ok (.aload_n 0, 1) := by decide +kernel
theorem dX6_runOf_97 : decode cX6_runOf 97 = .ok (.getfield 36, 3) := by decide +kernel
theorem dX6_runOf_100 : decode cX6_runOf 100 = .ok (.invokevirtual 120, 3) := by decide +kernel
theorem dX6_runOf_103 : decode cX6_runOf 103 = .ok (.ireturn, 1) := by decide +kernel
theorem dX6_runOf_104 : decode cX6_runOf 104 = .ok (.aload_n 0, 1) := by decide +kernel
theorem dX6_runOf_105 : decode cX6_runOf 105 = .ok (.getfield 36, 3) := by decide +kernel
theorem dX6_runOf_108 : decode cX6_runOf 108 = .ok (.invokevirtual 114, 3) := by decide +kernel
theorem dX6_runOf_111 : decode cX6_runOf 111 = .ok (.ireturn, 1) := by decide +kernel
theorem dX6_runOf_112 : decode cX6_runOf 112 = .ok (.aload_n 0, 1) := by decide +kernel
theorem dX6_runOf_113 : decode cX6_runOf 113 = .ok (.getfield 36, 3) := by decide +kernel
theorem dX6_runOf_116 : decode cX6_runOf 116 = .ok (.invokevirtual 182, 3) := by decide +kernel
theorem dX6_runOf_119 : decode cX6_runOf 119 = .ok (.ireturn, 1) := by decide +kernel
theorem dX6_runOf_120 : decode cX6_runOf 120 = .ok (.aload_n 0, 1) := by decide +kernel
theorem dX6_runOf_121 : decode cX6_runOf 121 = .ok (.getfield 36, 3) := by decide +kernel
theorem dX6_runOf_124 : decode cX6_runOf 124 = .ok (.getfield 203, 3) := by decide +kernel
theorem dX6_runOf_127 : decode cX6_runOf 127 = .ok (.getfield 207, 3) := by decide +kernel
theorem dX6_runOf_130 : decode cX6_runOf 130 = .ok (.ireturn, 1) := by decide +kernel
theorem dX6_runOf_131 : decode cX6_runOf 131 = .ok (.aload_n 0, 1) := by decide +kernel
theorem dX6_runOf_132 : decode cX6_runOf 132 = .ok (.getfield 36, 3) := by decide +kernel
theorem dX6_runOf_135 : decode cX6_runOf 135 = .ok (.getfield 203, 3) := by decide +kernel
theorem dX6_runOf_138 : decode cX6_runOf 138 = .ok (.getfield 212, 3) := by decide +kernel
theorem dX6_runOf_141 : decode cX6_runOf 141 = .ok (.ireturn, 1) := by decide +kernel
theorem dX6_runOf_142 : decode cX6_runOf 142 = .ok (.aload_n 0, 1) := by decide +kernel
theorem dX6_runOf_143 : decode cX6_runOf 143 = .ok (.getfield 36, 3) := by decide +kernel
theorem dX6_runOf_146 : decode cX6_runOf 146 = .ok (.invokevirtual 215, 3) := by decide +kernel
theorem dX6_runOf_149 : decode cX6_runOf 149 = .ok (.ireturn, 1) := by decide +kernel
theorem dX6_runOf_150 : decode cX6_runOf 150 = .ok (.aload_n 0, 1) := by decide +kernel
theorem dX6_runOf_151 : decode cX6_runOf 151 = .ok (.getfield 36, 3) := by decide +kernel
theorem dX6_runOf_154 : decode cX6_runOf 154 = .ok (.invokevirtual 126, 3) := by decide +kernel
theorem dX6_runOf_157 : decode cX6_runOf 157 = .ok (.ireturn, 1) := by decide +kernel
theorem dX6_runOf_158 : decode cX6_runOf 158 = .ok (.aload_n 0, 1) := by decide +kernel
theorem dX6_runOf_159 : decode cX6_runOf 159 = .ok (.getfield 36, 3) := by decide +kernel
theorem dX6_runOf_162 : decode cX6_runOf 162 = .ok (.invokevirtual 218, 3) := by decide +kernel
theorem dX6_runOf_165 : decode cX6_runOf 165 = .ok (.ireturn, 1) := by decide +kernel
theorem dX6_runOf_166 : decode cX6_runOf 166 = .ok (.aload_n 0, 1) := by decide +kernel
theorem dX6_runOf_167 : decode cX6_runOf 167 = .ok (.getfield 36, 3) := by decide +kernel
theorem dX6_runOf_170 : decode cX6_runOf 170 = .ok (.getfield 203, 3) := by decide +kernel
theorem dX6_runOf_173 : decode cX6_runOf 173 = .ok (.getfield 221, 3) := by decide +kernel
theorem dX6_runOf_176 : decode cX6_runOf 176 = .ok (.ireturn, 1) := by decide +kernel
theorem dX6_runOf_177 : decode cX6_runOf 177 = .ok (.bipush (-2), 2) := by decide +kernel
theorem dX6_runOf_179 : decode cX6_runOf 179 = .ok (.ireturn, 1) := by decide +kernel
theorem dX6_count_0 : decode cX6_count 0 = .ok (.iload_n 1, 1) := by decide +kernel
theorem dX6_count_1 : decode cX6_count 1 = .ok (.tableswitch 87 0 5 #[39, 47, 55, 63, 71, 79], 39) := by decide +kernel
theorem dX6_count_40 : decode cX6_count 40 = .ok (.aload_n 0, 1) := by decide +kernel
theorem dX6_count_41 : decode cX6_count 41 = .ok (.getfield 10, 3) := by decide +kernel
theorem dX6_count_44 : decode cX6_count 44 = .ok (.getfield 52, 3) := by decide +kernel
theorem dX6_count_47 : decode cX6_count 47 = .ok (.ireturn, 1) := by decide +kernel
theorem dX6_count_48 : decode cX6_count 48 = .ok (.aload_n 0, 1) := by decide +kernel
theorem dX6_count_49 : decode cX6_count 49 = .ok (.getfield 10, 3) := by decide +kernel
theorem dX6_count_52 : decode cX6_count 52 = .ok (.getfield 132, 3) := by decide +kernel
theorem dX6_count_55 : decode cX6_count 55 = .ok (.ireturn, 1) := by decide +kernel
theorem dX6_count_56 : decode cX6_count 56 = .ok (.aload_n 0, 1) := by decide +kernel
theorem dX6_count_57 : decode cX6_count 57 = .ok (.getfield 10, 3) := by decide +kernel
theorem dX6_count_60 : decode cX6_count 60 = .ok (.getfield 135, 3) := by decide +kernel
theorem dX6_count_63 : decode cX6_count 63 = .ok (.ireturn, 1) := by decide +kernel
theorem dX6_count_64 : decode cX6_count 64 = .ok (.aload_n 0, 1) := by decide +kernel
theorem dX6_count_65 : decode cX6_count 65 = .ok (.getfield 10, 3) := by decide +kernel
theorem dX6_count_68 : decode cX6_count 68 = .ok (.invokevirtual 224, 3) := by decide +kernel
theorem dX6_count_71 : decode cX6_count 71 = .ok (.ireturn, 1) := by decide +kernel
theorem dX6_count_72 : decode cX6_count 72 = .ok (.aload_n 0, 1) := by decide +kernel
theorem dX6_count_73 : decode cX6_count 73 = .ok (.getfield 22, 3) := by decide +kernel
theorem dX6_count_76 : decode cX6_count 76 = .ok (.getfield 154, 3) := by decide +kernel
theorem dX6_count_79 : decode cX6_count 79 = .ok (.ireturn, 1) := by decide +kernel
theorem dX6_count_80 : decode cX6_count 80 = .ok (.aload_n 0, 1) := by decide +kernel
theorem dX6_count_81 : decode cX6_count 81 = .ok (.getfield 29, 3) := by decide +kernel
theorem dX6_count_84 : decode cX6_count 84 = .ok (.getfield 151, 3) := by decide +kernel
theorem dX6_count_87 : decode cX6_count 87 = .ok (.ireturn, 1) := by decide +kernel
theorem dX6_count_88 : decode cX6_count 88 = .ok (.aload_n 0, 1) := by decide +kernel
theorem dX6_count_89 : decode cX6_count 89 = .ok (.iload_n 1, 1) := by decide +kernel
theorem dX6_count_90 : decode cX6_count 90 = .ok (.bipush 6, 2) := by decide +kernel
theorem dX6_count_92 : decode cX6_count 92 = .ok (.isub, 1) := by decide +kernel
theorem dX6_count_93 : decode cX6_count 93 = .ok (.invokevirtual 227, 3) := by decide +kernel
theorem dX6_count_96 : decode cX6_count 96 = .ok (.ireturn, 1) := by decide +kernel
theorem dX6_off_0 : decode cX6_off 0 = .ok (.aload_n 0, 1) := by decide +kernel
theorem dX6_off_1 : decode cX6_off 1 = .ok (.getfield 10, 3) := by decide +kernel
theorem dX6_off_4 : decode cX6_off 4 = .ok (.iload_n 1, 1) := by decide +kernel
theorem dX6_off_5 : decode cX6_off 5 = .ok (.invokevirtual 64, 3) := by decide +kernel
theorem dX6_off_8 : decode cX6_off 8 = .ok (.astore_n 3, 1) := by decide +kernel
theorem dX6_off_9 : decode cX6_off 9 = .ok (.aload_n 3, 1) := by decide +kernel
theorem dX6_off_10 : decode cX6_off 10 = .ok (.ifnull 10, 3) := by decide +kernel
theorem dX6_off_13 : decode cX6_off 13 = .ok (.iload_n 2, 1) := by decide +kernel
theorem dX6_off_14 : decode cX6_off 14 = .ok (.invokestatic 104, 3) := by decide +kernel
theorem dX6_off_17 : decode cX6_off 17 = .ok (.ifCond .ne 5, 3) := by decide +kernel
theorem dX6_off_20 : decode cX6_off 20 = .ok (.fconst 2, 1) := by decide +kernel
theorem dX6_off_21 : decode cX6_off 21 = .ok (.freturn, 1) := by decide +kernel
theorem dX6_off_22 : decode cX6_off 22 = .ok (.aload_n 0, 1) := by decide +kernel
theorem dX6_off_23 : decode cX6_off 23 = .ok (.getfield 36, 3) := by decide +kernel
theorem dX6_off_26 : decode cX6_off 26 = .ok (.aload_n 3, 1) := by decide +kernel
theorem dX6_off_27 : decode cX6_off 27 = .ok (.iload_n 2, 1) := by decide +kernel
theorem dX6_off_28 : decode cX6_off 28 = .ok (.aload_n 0, 1) := by decide +kernel
theorem dX6_off_29 : decode cX6_off 29 = .ok (.getfield 10, 3) := by decide +kernel
theorem dX6_off_32 : decode cX6_off 32 = .ok (.getfield 107, 3) := by decide +kernel
theorem dX6_off_35 : decode cX6_off 35 = .ok (.invokevirtual 110, 3) := by decide +kernel
theorem dX6_off_38 : decode cX6_off 38 = .ok (.aload_n 0, 1) := by decide +kernel
theorem dX6_off_39 : decode cX6_off 39 = .ok (.getfield 36, 3) := by decide +kernel
theorem dX6_off_42 : decode cX6_off 42 = .ok (.invokevirtual 120, 3) := by decide +kernel
theorem dX6_off_45 : decode cX6_off 45 = .ok (.istore 4, 2) := by decide +kernel
theorem dX6_off_47 : decode cX6_off 47 = .ok (.aload_n 3, 1) := by decide +kernel
theorem dX6_off_48 : decode cX6_off 48 = .ok (.invokevirtual 163, 3) := by decide +kernel
theorem dX6_off_51 : decode cX6_off 51 = .ok (.istore 5, 2) := by decide +kernel
theorem dX6_off_53 : decode cX6_off 53 = .ok (.iload 4, 2) := by decide +kernel
theorem dX6_off_55 : decode cX6_off 55 = .ok (.bipush (-5), 2) := by decide +kernel
theorem dX6_off_57 : decode cX6_off 57 = .ok (.if_icmp .eq 8, 3) := by decide +kernel
theorem dX6_off_60 : decode cX6_off 60 = .ok (.iload 5, 2) := by decide +kernel
theorem dX6_off_62 : decode cX6_off 62 = .ok (.ifCond .gt 5, 3) := by decide +kernel
theorem dX6_off_65 : decode cX6_off 65 = .ok (.fconst 2, 1) := by decide +kernel
theorem dX6_off_66 : decode cX6_off 66 = .ok (.freturn, 1) := by decide +kernel
theorem dX6_off_67 : decode cX6_off 67 = .ok (.iload 4, 2) := by decide +kernel
theorem dX6_off_69 : decode cX6_off 69 = .ok (.iload 5, 2) := by decide +kernel
theorem dX6_off_71 : decode cX6_off 71 = .ok (.isub, 1) := by decide +kernel
theorem dX6_off_72 : decode cX6_off 72 = .ok (.i2f, 1) := by decide +kernel
theorem dX6_off_73 : decode cX6_off 73 = .ok (.iload 5, 2) := by decide +kernel
theorem dX6_off_75 : decode cX6_off 75 = .ok (.i2f, 1) := by decide +kernel
theorem dX6_off_76 : decode cX6_off 76 = .ok (.fdiv, 1) := by decide +kernel
theorem dX6_off_77 : decode cX6_off 77 = .ok (.freturn, 1) := by decide +kernel
theorem dX6_fastest_0 : decode cX6_fastest 0 = .ok (.aload_n 0, 1) := by decide +kernel
theorem dX6_fastest_1 : decode cX6_fastest 1 = .ok (.getfield 10, 3) := by decide +kernel
theorem dX6_fastest_4 : decode cX6_fastest 4 = .ok (.iload_n 1, 1) := by decide +kernel
theorem dX6_fastest_5 : decode cX6_fastest 5 = .ok (.invokevirtual 64, 3) := by decide +kernel
theorem dX6_fastest_8 : decode cX6_fastest 8 = .ok (.astore_n 2, 1) := by decide +kernel
theorem dX6_fastest_9 : decode cX6_fastest 9 = .ok (.aload_n 2, 1) := by decide +kernel
theorem dX6_fastest_10 : decode cX6_fastest 10 = .ok (.ifnonnull 5, 3) := by decide +kernel
theorem dX6_fastest_13 : decode cX6_fastest 13 = .ok (.iconst (-1), 1) := by decide +kernel
theorem dX6_fastest_14 : decode cX6_fastest 14 = .ok (.ireturn, 1) := by decide +kernel
theorem dX6_fastest_15 : decode cX6_fastest 15 = .ok (.bipush 9, 2) := by decide +kernel
theorem dX6_fastest_17 : decode cX6_fastest 17 = .ok (.istore_n 3, 1) := by decide +kernel
theorem dX6_fastest_18 : decode cX6_fastest 18 = .ok (.iload_n 3, 1) := by decide +kernel
theorem dX6_fastest_19 : decode cX6_fastest 19 = .ok (.iconst 1, 1) := by decide +kernel
theorem dX6_fastest_20 : decode cX6_fastest 20 = .ok (.if_icmp .lt 27, 3) := by decide +kernel
theorem dX6_fastest_23 : decode cX6_fastest 23 = .ok (.aload_n 0, 1) := by decide +kernel
theorem dX6_fastest_24 : decode cX6_fastest 24 = .ok (.aload_n 2, 1) := by decide +kernel
theorem dX6_fastest_25 : decode cX6_fastest 25 = .ok (.iload_n 3, 1) := by decide +kernel
theorem dX6_fastest_26 : decode cX6_fastest 26 = .ok (.aload_n 0, 1) := by decide +kernel
theorem dX6_fastest_27 : decode cX6_fastest 27 = .ok (.getfield 10, 3) := by decide +kernel
theorem dX6_fastest_30 : decode cX6_fastest 30 = .ok (.getfield 107, 3) := by decide +kernel
theorem dX6_fastest_33 : decode cX6_fastest 33 = .ok (.invokevirtual 230, 3) := by decide +kernel
theorem dX6_fastest_36 : decode cX6_fastest 36 = .ok (.ifCond .eq 5, 3) := by decide +kernel
theorem dX6_fastest_39 : decode cX6_fastest 39 = .ok (.iload_n 3, 1) := by decide +kernel
theorem dX6_fastest_40 : decode cX6_fastest 40 = .ok (.ireturn, 1) := by decide +kernel
theorem dX6_fastest_41 : decode cX6_fastest 41 = .ok (.iinc 3 (-1), 3) := by decide +kernel
theorem dX6_fastest_44 : decode cX6_fastest 44 = .ok (.goto (-26), 3) := by decide +kernel
theorem dX6_fastest_47 : decode cX6_fastest 47 = .ok (.bipush (-5), 2) := by decide +kernel
theorem dX6_fastest_49 : decode cX6_fastest 49 = .ok (.ireturn, 1) := by decide +kernel
theorem dX6_leastWindow_0 : decode cX6_leastWindow 0 = .ok (.aload_n 0, 1) := by decide +kernel
theorem dX6_leastWindow_1 : decode cX6_leastWindow 1 = .ok (.iload_n 1, 1) := by decide +kernel
theorem dX6_leastWindow_2 : decode cX6_leastWindow 2 = .ok (.iload_n 2, 1) := by decide +kernel
theorem dX6_leastWindow_3 : decode cX6_leastWindow 3 = .ok (.iconst 3, 1) := by decide +kernel
theorem dX6_leastWindow_4 : decode cX6_leastWindow 4 = .ok (.invokevirtual 234, 3) := by decide +kernel
theorem dX6_leastWindow_7 : decode cX6_leastWindow 7 = .ok (.ireturn, 1) := by decide +kernel
theorem dX6_shortestPlate_0 : decode cX6_shortestPlate 0 = .ok (.aload_n 0, 1) := by decide +kernel
theorem dX6_shortestPlate_1 : decode cX6_shortestPlate 1 = .ok (.iload_n 1, 1) := by decide +kernel
theorem dX6_shortestPlate_2 : decode cX6_shortestPlate 2 = .ok (.iload_n 2, 1) := by decide +kernel
theorem dX6_shortestPlate_3 : decode cX6_shortestPlate 3 = .ok (.iconst 0, 1) := by decide +kernel
theorem dX6_shortestPlate_4 : decode cX6_shortestPlate 4 = .ok (.invokevirtual 234, 3) := by decide +kernel
theorem dX6_shortestPlate_7 : decode cX6_shortestPlate 7 = .ok (.ireturn, 1) := by decide +kernel
theorem dX6_isWeight_0 : decode cX6_isWeight 0 = .ok (.iload_n 0, 1) := by decide +kernel
theorem dX6_isWeight_1 : decode cX6_isWeight 1 = .ok (.iconst 1, 1) := by decide +kernel
theorem dX6_isWeight_2 : decode cX6_isWeight 2 = .ok (.if_icmp .lt 14, 3) := by decide +kernel
theorem dX6_isWeight_5 : decode cX6_isWeight 5 = .ok (.iload_n 0, 1) := by decide +kernel
theorem dX6_isWeight_6 : decode cX6_isWeight 6 = .ok (.sipush 200, 3) := by decide +kernel
theorem dX6_isWeight_9 : decode cX6_isWeight 9 = .ok (.if_icmp .gt 7, 3) := by decide +kernel
theorem dX6_isWeight_12 : decode cX6_isWeight 12 = .ok (.iconst 1, 1) := by decide +kernel
theorem dX6_isWeight_13 : decode cX6_isWeight 13 = .ok (.goto 4, 3) := by decide +kernel
theorem dX6_isWeight_16 : decode cX6_isWeight 16 = .ok (.iconst 0, 1) := by decide +kernel
theorem dX6_isWeight_17 : decode cX6_isWeight 17 = .ok (.ireturn, 1) := by decide +kernel
theorem dX6_isDistance_0 : decode cX6_isDistance 0 = .ok (.iload_n 0, 1) := by decide +kernel
theorem dX6_isDistance_1 : decode cX6_isDistance 1 = .ok (.iconst 2, 1) := by decide +kernel
theorem dX6_isDistance_2 : decode cX6_isDistance 2 = .ok (.if_icmp .lt 13, 3) := by decide +kernel
theorem dX6_isDistance_5 : decode cX6_isDistance 5 = .ok (.iload_n 0, 1) := by decide +kernel
theorem dX6_isDistance_6 : decode cX6_isDistance 6 = .ok (.bipush 40, 2) := by decide +kernel
theorem dX6_isDistance_8 : decode cX6_isDistance 8 = .ok (.if_icmp .gt 7, 3) := by decide +kernel
theorem dX6_isDistance_11 : decode cX6_isDistance 11 = .ok (.iconst 1, 1) := by decide +kernel
theorem dX6_isDistance_12 : decode cX6_isDistance 12 = .ok (.goto 4, 3) := by decide +kernel
theorem dX6_isDistance_15 : decode cX6_isDistance 15 = .ok (.iconst 0, 1) := by decide +kernel
theorem dX6_isDistance_16 : decode cX6_isDistance 16 = .ok (.ireturn, 1) := by decide +kernel
theorem dX6_isSpeed_0 : decode cX6_isSpeed 0 = .ok (.iload_n 0, 1) := by decide +kernel
theorem dX6_isSpeed_1 : decode cX6_isSpeed 1 = .ok (.iconst 1, 1) := by decide +kernel
theorem dX6_isSpeed_2 : decode cX6_isSpeed 2 = .ok (.if_icmp .lt 13, 3) := by decide +kernel
theorem dX6_isSpeed_5 : decode cX6_isSpeed 5 = .ok (.iload_n 0, 1) := by decide +kernel
theorem dX6_isSpeed_6 : decode cX6_isSpeed 6 = .ok (.bipush 9, 2) := by decide +kernel
theorem dX6_isSpeed_8 : decode cX6_isSpeed 8 = .ok (.if_icmp .gt 7, 3) := by decide +kernel
theorem dX6_isSpeed_11 : decode cX6_isSpeed 11 = .ok (.iconst 1, 1) := by decide +kernel
theorem dX6_isSpeed_12 : decode cX6_isSpeed 12 = .ok (.goto 4, 3) := by decide +kernel
theorem dX6_isSpeed_15 : decode cX6_isSpeed 15 = .ok (.iconst 0, 1) := by decide +kernel
theorem dX6_isSpeed_16 : decode cX6_isSpeed 16 = .ok (.ireturn, 1) := by decide +kernel
theorem dX6_quotient_0 : decode cX6_quotient 0 = .ok (.iload_n 1, 1) := by decide +kernel
theorem dX6_quotient_1 : decode cX6_quotient 1 = .ok (.ifCond .gt 7, 3) := by decide +kernel
theorem dX6_quotient_4 : decode cX6_quotient 4 = .ok (.iconst 0, 1) := by decide +kernel
theorem dX6_quotient_5 : decode cX6_quotient 5 = .ok (.goto 6, 3) := by decide +kernel
theorem dX6_quotient_8 : decode cX6_quotient 8 = .ok (.iload_n 0, 1) := by decide +kernel
theorem dX6_quotient_9 : decode cX6_quotient 9 = .ok (.iload_n 1, 1) := by decide +kernel
theorem dX6_quotient_10 : decode cX6_quotient 10 = .ok (.idiv, 1) := by decide +kernel
theorem dX6_quotient_11 : decode cX6_quotient 11 = .ok (.ireturn, 1) := by decide +kernel
theorem dX6_quotientUp_0 : decode cX6_quotientUp 0 = .ok (.iload_n 1, 1) := by decide +kernel
theorem dX6_quotientUp_1 : decode cX6_quotientUp 1 = .ok (.ifCond .gt 7, 3) := by decide +kernel
theorem dX6_quotientUp_4 : decode cX6_quotientUp 4 = .ok (.iconst 0, 1) := by decide +kernel
theorem dX6_quotientUp_5 : decode cX6_quotientUp 5 = .ok (.goto 10, 3) := by decide +kernel
theorem dX6_quotientUp_8 : decode cX6_quotientUp 8 = .ok (.iload_n 0, 1) := by decide +kernel
theorem dX6_quotientUp_9 : decode cX6_quotientUp 9 = .ok (.iload_n 1, 1) := by decide +kernel
theorem dX6_quotientUp_10 : decode cX6_quotientUp 10 = .ok (.iadd, 1) := by decide +kernel
theorem dX6_quotientUp_11 : decode cX6_quotientUp 11 = .ok (.iconst 1, 1) := by decide +kernel
theorem dX6_quotientUp_12 : decode cX6_quotientUp 12 = .ok (.isub, 1) := by decide +kernel
theorem dX6_quotientUp_13 : decode cX6_quotientUp 13 = .ok (.iload_n 1, 1) := by decide +kernel
theorem dX6_quotientUp_14 : decode cX6_quotientUp 14 = .ok (.idiv, 1) := by decide +kernel
theorem dX6_quotientUp_15 : decode cX6_quotientUp 15 = .ok (.ireturn, 1) := by decide +kernel
theorem dX6_settingOf_0 : decode cX6_settingOf 0 = .ok (.iload_n 1, 1) := by decide +kernel
theorem dX6_settingOf_1 : decode cX6_settingOf 1 = .ok (.ifCond .lt 9, 3) := by decide +kernel
theorem dX6_settingOf_4 : decode cX6_settingOf 4 = .ok (.iload_n 1, 1) := by decide +kernel
theorem dX6_settingOf_5 : decode cX6_settingOf 5 = .ok (.bipush 6, 2) := by decide +kernel
theorem dX6_settingOf_7 : decode cX6_settingOf 7 = .ok (.if_icmp .lt 8, 3) := by decide +kernel
theorem dX6_settingOf_10 : decode cX6_settingOf 10 = .ok (.bipush (-2), 2) := by decide +kernel
theorem dX6_settingOf_12 : decode cX6_settingOf 12 = .ok (.goto 12, 3) := by decide +kernel
theorem dX6_settingOf_15 : decode cX6_settingOf 15 = .ok (.aload_n 0, 1) := by decide +kernel
theorem dX6_settingOf_16 : decode cX6_settingOf 16 = .ok (.getfield 10, 3) := by decide +kernel
theorem dX6_settingOf_19 : decode cX6_settingOf 19 = .ok (.getfield 107, 3) := by decide +kernel
theorem dX6_settingOf_22 : decode cX6_settingOf 22 = .ok (.iload_n 1, 1) := by decide +kernel
theorem dX6_settingOf_23 : decode cX6_settingOf 23 = .ok (.iaload, 1) := by decide +kernel
theorem dX6_settingOf_24 : decode cX6_settingOf 24 = .ok (.ireturn, 1) := by decide +kernel
theorem dX6_leastSetting_0 : decode cX6_leastSetting 0 = .ok (.aload_n 0, 1) := by decide +kernel
theorem dX6_leastSetting_1 : decode cX6_leastSetting 1 = .ok (.getfield 10, 3) := by decide +kernel
theorem dX6_leastSetting_4 : decode cX6_leastSetting 4 = .ok (.iload_n 1, 1) := by decide +kernel
theorem dX6_leastSetting_5 : decode cX6_leastSetting 5 = .ok (.invokevirtual 64, 3) := by decide +kernel
theorem dX6_leastSetting_8 : decode cX6_leastSetting 8 = .ok (.astore 4, 2) := by decide +kernel
theorem dX6_leastSetting_10 : decode cX6_leastSetting 10 = .ok (.aload 4, 2) := by decide +kernel
theorem dX6_leastSetting_12 : decode cX6_leastSetting 12 = .ok (.ifnonnull 5, 3) := by decide +kernel
theorem dX6_leastSetting_15 : decode cX6_leastSetting 15 = .ok (.iconst (-1), 1) := by decide +kernel
theorem dX6_leastSetting_16 : decode cX6_leastSetting 16 = .ok (.ireturn, 1) := by decide +kernel
theorem dX6_leastSetting_17 : decode cX6_leastSetting 17 = .ok (.iload_n 2, 1) := by decide +kernel
theorem dX6_leastSetting_18 : decode cX6_leastSetting 18 = .ok (.invokestatic 104, 3) := by decide +kernel
theorem dX6_leastSetting_21 : decode cX6_leastSetting 21 = .ok (.ifCond .ne 6, 3) := by decide +kernel
theorem dX6_leastSetting_24 : decode cX6_leastSetting 24 = .ok (.bipush (-2), 2) := by decide +kernel
theorem dX6_leastSetting_26 : decode cX6_leastSetting 26 = .ok (.ireturn, 1) := by decide +kernel
theorem dX6_leastSetting_27 : decode cX6_leastSetting 27 = .ok (.aload_n 0, 1) := by decide +kernel
theorem dX6_leastSetting_28 : decode cX6_leastSetting 28 = .ok (.getfield 10, 3) := by decide +kernel
theorem dX6_leastSetting_31 : decode cX6_leastSetting 31 = .ok (.getfield 107, 3) := by decide +kernel
theorem dX6_leastSetting_34 : decode cX6_leastSetting 34 = .ok (.iconst 0, 1) := by decide +kernel
theorem dX6_leastSetting_35 : decode cX6_leastSetting 35 = .ok (.aload_n 0, 1) := by decide +kernel
theorem dX6_leastSetting_36 : decode cX6_leastSetting 36 = .ok (.getfield 40, 3) := by decide +kernel
theorem dX6_leastSetting_39 : decode cX6_leastSetting 39 = .ok (.iconst 0, 1) := by decide +kernel
theorem dX6_leastSetting_40 : decode cX6_leastSetting 40 = .ok (.bipush 6, 2) := by decide +kernel
theorem dX6_leastSetting_42 : decode cX6_leastSetting 42 = .ok (.invokestatic 238, 3) := by decide +kernel
theorem dX6_leastSetting_45 : decode cX6_leastSetting 45 = .ok (.getstatic 141, 3) := by decide +kernel
theorem dX6_leastSetting_48 : decode cX6_leastSetting 48 = .ok (.iload_n 3, 1) := by decide +kernel
theorem dX6_leastSetting_49 : decode cX6_leastSetting 49 = .ok (.iaload, 1) := by decide +kernel
theorem dX6_leastSetting_50 : decode cX6_leastSetting 50 = .ok (.istore 5, 2) := by decide +kernel
theorem dX6_leastSetting_52 : decode cX6_leastSetting 52 = .ok (.iload 5, 2) := by decide +kernel
theorem dX6_leastSetting_54 : decode cX6_leastSetting 54 = .ok (.getstatic 144, 3) := by decide +kernel
theorem dX6_leastSetting_57 : decode cX6_leastSetting 57 = .ok (.iload_n 3, 1) := by decide +kernel
theorem dX6_leastSetting_58 : decode cX6_leastSetting 58 = .ok (.iaload, 1) := by decide +kernel
theorem dX6_leastSetting_59 : decode cX6_leastSetting 59 = .ok (.if_icmp .gt 34, 3) := by decide +kernel
theorem dX6_leastSetting_62 : decode cX6_leastSetting 62 = .ok (.aload_n 0, 1) := by decide +kernel
theorem dX6_leastSetting_63 : decode cX6_leastSetting 63 = .ok (.getfield 40, 3) := by decide +kernel
theorem dX6_leastSetting_66 : decode cX6_leastSetting 66 = .ok (.iload_n 3, 1) := by decide +kernel
theorem dX6_leastSetting_67 : decode cX6_leastSetting 67 = .ok (.iload 5, 2) := by decide +kernel
theorem dX6_leastSetting_69 : decode cX6_leastSetting 69 = .ok (.iastore, 1) := by decide +kernel
theorem dX6_leastSetting_70 : decode cX6_leastSetting 70 = .ok (.aload_n 0, 1) := by decide +kernel
theorem dX6_leastSetting_71 : decode cX6_leastSetting 71 = .ok (.aload 4, 2) := by decide +kernel
theorem dX6_leastSetting_73 : decode cX6_leastSetting 73 = .ok (.iload_n 2, 1) := by decide +kernel
theorem dX6_leastSetting_74 : decode cX6_leastSetting 74 = .ok (.aload_n 0, 1) := by decide +kernel
theorem dX6_leastSetting_75 : decode cX6_leastSetting 75 = .ok (.getfield 40, 3) := by decide +kernel
theorem dX6_leastSetting_78 : decode cX6_leastSetting 78 = .ok (.invokevirtual 230, 3) := by decide +kernel
theorem dX6_leastSetting_81 : decode cX6_leastSetting 81 = .ok (.ifCond .eq 6, 3) := by decide +kernel
theorem dX6_leastSetting_84 : decode cX6_leastSetting 84 = .ok (.iload 5, 2) := by decide +kernel
theorem dX6_leastSetting_86 : decode cX6_leastSetting 86 = .ok (.ireturn, 1) := by decide +kernel
theorem dX6_leastSetting_87 : decode cX6_leastSetting 87 = .ok (.iinc 5 1, 3) := by decide +kernel
theorem dX6_leastSetting_90 : decode cX6_leastSetting 90 = .ok (.goto (-38), 3) := by decide +kernel
theorem dX6_leastSetting_93 : decode cX6_leastSetting 93 = .ok (.bipush (-5), 2) := by decide +kernel
theorem dX6_leastSetting_95 : decode cX6_leastSetting 95 = .ok (.ireturn, 1) := by decide +kernel
theorem dX6_tellsNearly_0 : decode cX6_tellsNearly 0 = .ok (.aload_n 0, 1) := by decide +kernel
theorem dX6_tellsNearly_1 : decode cX6_tellsNearly 1 = .ok (.getfield 36, 3) := by decide +kernel
theorem dX6_tellsNearly_4 : decode cX6_tellsNearly 4 = .ok (.aload_n 1, 1) := by decide +kernel
theorem dX6_tellsNearly_5 : decode cX6_tellsNearly 5 = .ok (.iload_n 2, 1) := by decide +kernel
theorem dX6_tellsNearly_6 : decode cX6_tellsNearly 6 = .ok (.aload_n 3, 1) := by decide +kernel
theorem dX6_tellsNearly_7 : decode cX6_tellsNearly 7 = .ok (.invokevirtual 179, 3) := by decide +kernel
theorem dX6_tellsNearly_10 : decode cX6_tellsNearly 10 = .ok (.aload_n 0, 1) := by decide +kernel
theorem dX6_tellsNearly_11 : decode cX6_tellsNearly 11 = .ok (.getfield 36, 3) := by decide +kernel
theorem dX6_tellsNearly_14 : decode cX6_tellsNearly 14 = .ok (.invokevirtual 244, 3) := by decide +kernel
theorem dX6_tellsNearly_17 : decode cX6_tellsNearly 17 = .ok (.ifCond .eq 5, 3) := by decide +kernel
theorem dX6_tellsNearly_20 : decode cX6_tellsNearly 20 = .ok (.iconst 0, 1) := by decide +kernel
theorem dX6_tellsNearly_21 : decode cX6_tellsNearly 21 = .ok (.ireturn, 1) := by decide +kernel
theorem dX6_tellsNearly_22 : decode cX6_tellsNearly 22 = .ok (.aload_n 0, 1) := by decide +kernel
theorem dX6_tellsNearly_23 : decode cX6_tellsNearly 23 = .ok (.getfield 36, 3) := by decide +kernel
theorem dX6_tellsNearly_26 : decode cX6_tellsNearly 26 = .ok (.invokevirtual 185, 3) := by decide +kernel
theorem dX6_tellsNearly_29 : decode cX6_tellsNearly 29 = .ok (.aload_n 0, 1) := by decide +kernel
theorem dX6_tellsNearly_30 : decode cX6_tellsNearly 30 = .ok (.getfield 36, 3) := by decide +kernel
theorem dX6_tellsNearly_33 : decode cX6_tellsNearly 33 = .ok (.invokevirtual 120, 3) := by decide +kernel
theorem dX6_tellsNearly_36 : decode cX6_tellsNearly 36 = .ok (.istore 4, 2) := by decide +kernel
theorem dX6_tellsNearly_38 : decode cX6_tellsNearly 38 = .ok (.iload 4, 2) := by decide +kernel
theorem dX6_tellsNearly_40 : decode cX6_tellsNearly 40 = .ok (.bipush (-5), 2) := by decide +kernel
theorem dX6_tellsNearly_42 : decode cX6_tellsNearly 42 = .ok (.if_icmp .eq 23, 3) := by decide +kernel
theorem dX6_tellsNearly_45 : decode cX6_tellsNearly 45 = .ok (.iload 4, 2) := by decide +kernel
theorem dX6_tellsNearly_47 : decode cX6_tellsNearly 47 = .ok (.aload_n 1, 1) := by decide +kernel
theorem dX6_tellsNearly_48 : decode cX6_tellsNearly 48 = .ok (.invokevirtual 163, 3) := by decide +kernel
theorem dX6_tellsNearly_51 : decode cX6_tellsNearly 51 = .ok (.isub, 1) := by decide +kernel
theorem dX6_tellsNearly_52 : decode cX6_tellsNearly 52 = .ok (.invokestatic 248, 3) := by decide +kernel
theorem dX6_tellsNearly_55 : decode cX6_tellsNearly 55 = .ok (.aload_n 3, 1) := by decide +kernel
theorem dX6_tellsNearly_56 : decode cX6_tellsNearly 56 = .ok (.iconst 4, 1) := by decide +kernel
theorem dX6_tellsNearly_57 : decode cX6_tellsNearly 57 = .ok (.iaload, 1) := by decide +kernel
theorem dX6_tellsNearly_58 : decode cX6_tellsNearly 58 = .ok (.if_icmp .gt 7, 3) := by decide +kernel
theorem dX6_tellsNearly_61 : decode cX6_tellsNearly 61 = .ok (.iconst 1, 1) := by decide +kernel
theorem dX6_tellsNearly_62 : decode cX6_tellsNearly 62 = .ok (.goto 4, 3) := by decide +kernel
theorem dX6_tellsNearly_65 : decode cX6_tellsNearly 65 = .ok (.iconst 0, 1) := by decide +kernel
theorem dX6_tellsNearly_66 : decode cX6_tellsNearly 66 = .ok (.ireturn, 1) := by decide +kernel
theorem dX7_init_0 : decode cX7_init 0 = .ok (.aload_n 0, 1) := by decide +kernel
theorem dX7_init_1 : decode cX7_init 1 = .ok (.invokespecial 1, 3) := by decide +kernel
theorem dX7_init_4 : decode cX7_init 4 = .ok (.aload_n 0, 1) := by decide +kernel
theorem dX7_init_5 : decode cX7_init 5 = .ok (.sipush 129, 3) := by decide +kernel
theorem dX7_init_8 : decode cX7_init 8 = .ok (.newarray .int, 2) := by decide +kernel
theorem dX7_init_10 : decode cX7_init 10 = .ok (.putfield 7, 3) := by decide +kernel
theorem dX7_init_13 : decode cX7_init 13 = .ok (.aload_n 0, 1) := by decide +kernel
theorem dX7_init_14 : decode cX7_init 14 = .ok (.sipush 516, 3) := by decide +kernel
theorem dX7_init_17 : decode cX7_init 17 = .ok (.newarray .int, 2) := by decide +kernel
theorem dX7_init_19 : decode cX7_init 19 = .ok (.putfield 13, 3) := by decide +kernel
theorem dX7_init_22 : decode cX7_init 22 = .ok (.aload_n 0, 1) := by decide +kernel
theorem dX7_init_23 : decode cX7_init 23 = .ok (.sipush 129, 3) := by decide +kernel
theorem dX7_init_26 : decode cX7_init 26 = .ok (.newarray .int, 2) := by decide +kernel
theorem dX7_init_28 : decode cX7_init 28 = .ok (.putfield 16, 3) := by decide +kernel
theorem dX7_init_31 : decode cX7_init 31 = .ok (.aload_n 0, 1) := by decide +kernel
theorem dX7_init_32 : decode cX7_init 32 = .ok (.bipush 60, 2) := by decide +kernel
theorem dX7_init_34 : decode cX7_init 34 = .ok (.newarray .int, 2) := by decide +kernel
theorem dX7_init_36 : decode cX7_init 36 = .ok (.putfield 19, 3) := by decide +kernel
theorem dX7_init_39 : decode cX7_init 39 = .ok (.aload_n 0, 1) := by decide +kernel
theorem dX7_init_40 : decode cX7_init 40 = .ok (.iconst 5, 1) := by decide +kernel
theorem dX7_init_41 : decode cX7_init 41 = .ok (.newarray .int, 2) := by decide +kernel
theorem dX7_init_43 : decode cX7_init 43 = .ok (.putfield 22, 3) := by decide +kernel
theorem dX7_init_46 : decode cX7_init 46 = .ok (.aload_n 0, 1) := by decide +kernel
theorem dX7_init_47 : decode cX7_init 47 = .ok (.iconst 5, 1) := by decide +kernel
theorem dX7_init_48 : decode cX7_init 48 = .ok (.newarray .int, 2) := by decide +kernel
theorem dX7_init_50 : decode cX7_init 50 = .ok (.putfield 25, 3) := by decide +kernel
theorem dX7_init_53 : decode cX7_init 53 = .ok (.aload_n 0, 1) := by decide +kernel
theorem dX7_init_54 : decode cX7_init 54 = .ok (.bipush 120, 2) := by decide +kernel
theorem dX7_init_56 : decode cX7_init 56 = .ok (.newarray .int, 2) := by decide +kernel
theorem dX7_init_58 : decode cX7_init 58 = .ok (.putfield 28, 3) := by decide +kernel
theorem dX7_init_61 : decode cX7_init 61 = .ok (.aload_n 0, 1) := by decide +kernel
theorem dX7_init_62 : decode cX7_init 62 = .ok (.bipush 120, 2) := by decide +kernel
theorem dX7_init_64 : decode cX7_init 64 = .ok (.newarray .int, 2) := by decide +kernel
theorem dX7_init_66 : decode cX7_init 66 = .ok (.putfield 31, 3) := by decide +kernel
theorem dX7_init_69 : decode cX7_init 69 = .ok (.aload_n 0, 1) := by decide +kernel
theorem dX7_init_70 : decode cX7_init 70 = .ok (.bipush 120, 2) := by decide +kernel
theorem dX7_init_72 : decode cX7_init 72 = .ok (.newarray .int, 2) := by decide +kernel
theorem dX7_init_74 : decode cX7_init 74 = .ok (.putfield 34, 3) := by decide +kernel
theorem dX7_init_77 : decode cX7_init 77 = .ok (.aload_n 0, 1) := by decide +kernel
theorem dX7_init_78 : decode cX7_init 78 = .ok (.bipush 120, 2) := by decide +kernel
theorem dX7_init_80 : decode cX7_init 80 = .ok (.newarray .int, 2) := by decide +kernel
theorem dX7_init_82 : decode cX7_init 82 = .ok (.putfield 37, 3) := by decide +kernel
theorem dX7_init_85 : decode cX7_init 85 = .ok (.aload_n 0, 1) := by decide +kernel
theorem dX7_init_86 : decode cX7_init 86 = .ok (.bipush 120, 2) := by decide +kernel
theorem dX7_init_88 : decode cX7_init 88 = .ok (.newarray .int, 2) := by decide +kernel
theorem dX7_init_90 : decode cX7_init 90 = .ok (.putfield 40, 3) := by decide +kernel
theorem dX7_init_93 : decode cX7_init 93 = .ok (.aload_n 0, 1) := by decide +kernel
theorem dX7_init_94 : decode cX7_init 94 = .ok (.sipush 363, 3) := by decide +kernel
theorem dX7_init_97 : decode cX7_init 97 = .ok (.newarray .int, 2) := by decide +kernel
theorem dX7_init_99 : decode cX7_init 99 = .ok (.putfield 43, 3) := by decide +kernel
theorem dX7_init_102 : decode cX7_init 102 = .ok (.aload_n 0, 1) := by decide +kernel
theorem dX7_init_103 : decode cX7_init 103 = .ok (.getfield 7, 3) := by decide +kernel
theorem dX7_init_106 : decode cX7_init 106 = .ok (.iconst 0, 1) := by decide +kernel
theorem dX7_init_107 : decode cX7_init 107 = .ok (.bipush 40, 2) := by decide +kernel
theorem dX7_init_109 : decode cX7_init 109 = .ok (.iastore, 1) := by decide +kernel
theorem dX7_init_110 : decode cX7_init 110 = .ok (.aload_n 0, 1) := by decide +kernel
theorem dX7_init_111 : decode cX7_init 111 = .ok (.getfield 7, 3) := by decide +kernel
theorem dX7_init_114 : decode cX7_init 114 = .ok (.iconst 1, 1) := by decide +kernel
theorem dX7_init_115 : decode cX7_init 115 = .ok (.bipush 40, 2) := by decide +kernel
theorem dX7_init_117 : decode cX7_init 117 = .ok (.iastore, 1) := by decide +kernel
theorem dX7_init_118 : decode cX7_init 118 = .ok (.aload_n 0, 1) := by decide +kernel
theorem dX7_init_119 : decode cX7_init 119 = .ok (.getfield 7, 3) := by decide +kernel
theorem dX7_init_122 : decode cX7_init 122 = .ok (.iconst 2, 1) := by decide +kernel
theorem dX7_init_123 : decode cX7_init 123 = .ok (.bipush 60, 2) := by decide +kernel
theorem dX7_init_125 : decode cX7_init 125 = .ok (.iastore, 1) := by decide +kernel
theorem dX7_init_126 : decode cX7_init 126 = .ok (.aload_n 0, 1) := by decide +kernel
theorem dX7_init_127 : decode cX7_init 127 = .ok (.getfield 7, 3) := by decide +kernel
theorem dX7_init_130 : decode cX7_init 130 = .ok (.iconst 3, 1) := by decide +kernel
theorem dX7_init_131 : decode cX7_init 131 = .ok (.iconst 4, 1) := by decide +kernel
theorem dX7_init_132 : decode cX7_init 132 = .ok (.iastore, 1) := by decide +kernel
theorem dX7_init_133 : decode cX7_init 133 = .ok (.aload_n 0, 1) := by decide +kernel
theorem dX7_init_134 : decode cX7_init 134 = .ok (.getfield 7, 3) := by decide +kernel
theorem dX7_init_137 : decode cX7_init 137 = .ok (.iconst 4, 1) := by decide +kernel
theorem dX7_init_138 : decode cX7_init 138 = .ok (.iconst 3, 1) := by decide +kernel
theorem dX7_init_139 : decode cX7_init 139 = .ok (.iastore, 1) := by decide +kernel
theorem dX7_init_140 : decode cX7_init 140 = .ok (.aload_n 0, 1) := by decide +kernel
theorem dX7_init_141 : decode cX7_init 141 = .ok (.getfield 7, 3) := by decide +kernel
theorem dX7_init_144 : decode cX7_init 144 = .ok (.iconst 5, 1) := by decide +kernel
theorem dX7_init_145 : decode cX7_init 145 = .ok (.bipush 12, 2) := by decide +kernel
theorem dX7_init_147 : decode cX7_init 147 = .ok (.iastore, 1) := by decide +kernel
theorem dX7_init_148 : decode cX7_init 148 = .ok (.return_, 1) := by decide +kernel
theorem dX7_in_0 : decode cX7_in 0 = .ok (.iload_n 0, 1) := by decide +kernel
theorem dX7_in_1 : decode cX7_in 1 = .ok (.iload_n 1, 1) := by decide +kernel
theorem dX7_in_2 : decode cX7_in 2 = .ok (.if_icmp .lt 12, 3) := by decide +kernel
theorem dX7_in_5 : decode cX7_in 5 = .ok (.iload_n 0, 1) := by decide +kernel
theorem dX7_in_6 : decode cX7_in 6 = .ok (.iload_n 2, 1) := by decide +kernel
theorem dX7_in_7 : decode cX7_in 7 = .ok (.if_icmp .gt 7, 3) := by decide +kernel
theorem dX7_in_10 : decode cX7_in 10 = .ok (.iconst 1, 1) := by decide +kernel
theorem dX7_in_11 : decode cX7_in 11 = .ok (.goto 4, 3) := by decide +kernel
theorem dX7_in_14 : decode cX7_in 14 = .ok (.iconst 0, 1) := by decide +kernel
theorem dX7_in_15 : decode cX7_in 15 = .ok (.ireturn, 1) := by decide +kernel
theorem dX7_size_0 : decode cX7_size 0 = .ok (.iload_n 0, 1) := by decide +kernel
theorem dX7_size_1 : decode cX7_size 1 = .ok (.ifCond .ge 8, 3) := by decide +kernel
theorem dX7_size_4 : decode cX7_size 4 = .ok (.iload_n 0, 1) := by decide +kernel
theorem dX7_size_5 : decode cX7_size 5 = .ok (.ineg, 1) := by decide +kernel
theorem dX7_size_6 : decode cX7_size 6 = .ok (.goto 4, 3) := by decide +kernel
theorem dX7_size_9 : decode cX7_size 9 = .ok (.iload_n 0, 1) := by decide +kernel
theorem dX7_size_10 : decode cX7_size 10 = .ok (.ireturn, 1) := by decide +kernel
theorem dX7_of_0 : decode cX7_of 0 = .ok (.aload_n 0, 1) := by decide +kernel
theorem dX7_of_1 : decode cX7_of 1 = .ok (.getfield 7, 3) := by decide +kernel
theorem dX7_of_4 : decode cX7_of 4 = .ok (.bipush 9, 2) := by decide +kernel
theorem dX7_of_6 : decode cX7_of 6 = .ok (.bipush 20, 2) := by decide +kernel
theorem dX7_of_8 : decode cX7_of 8 = .ok (.iload_n 1, 1) := by decide +kernel
theorem dX7_of_9 : decode cX7_of 9 = .ok (.imul, 1) := by decide +kernel
theorem dX7_of_10 : decode cX7_of 10 = .ok (.iadd, 1) := by decide +kernel
theorem dX7_of_11 : decode cX7_of 11 = .ok (.iload_n 2, 1) := by decide +kernel
theorem dX7_of_12 : decode cX7_of 12 = .ok (.iadd, 1) := by decide +kernel
theorem dX7_of_13 : decode cX7_of 13 = .ok (.iaload, 1) := by decide +kernel
theorem dX7_of_14 : decode cX7_of 14 = .ok (.ireturn, 1) := by decide +kernel
theorem dX7_lay_0 : decode cX7_lay 0 = .ok (.aload_n 0, 1) := by decide +kernel
theorem dX7_lay_1 : decode cX7_lay 1 = .ok (.getfield 7, 3) := by decide +kernel
theorem dX7_lay_4 : decode cX7_lay 4 = .ok (.bipush 9, 2) := by decide +kernel
theorem dX7_lay_6 : decode cX7_lay 6 = .ok (.bipush 20, 2) := by decide +kernel
theorem dX7_lay_8 : decode cX7_lay 8 = .ok (.iload_n 1, 1) := by decide +kernel
theorem dX7_lay_9 : decode cX7_lay 9 = .ok (.imul, 1) := by decide +kernel
theorem dX7_lay_10 : decode cX7_lay 10 = .ok (.iadd, 1) := by decide +kernel
theorem dX7_lay_11 : decode cX7_lay 11 = .ok (.iload_n 2, 1) := by decide +kernel
theorem dX7_lay_12 : decode cX7_lay 12 = .ok (.iadd, 1) := by decide +kernel
theorem dX7_lay_13 : decode cX7_lay 13 = .ok (.iload_n 3, 1) := by decide +kernel
theorem dX7_lay_14 : decode cX7_lay 14 = .ok (.iastore, 1) := by decide +kernel
theorem dX7_lay_15 : decode cX7_lay 15 = .ok (.return_, 1) := by decide +kernel
theorem dX7_isCart_0 : decode cX7_isCart 0 = .ok (.iload_n 1, 1) := by decide +kernel
theorem dX7_isCart_1 : decode cX7_isCart 1 = .ok (.iconst 0, 1) := by decide +kernel
theorem dX7_isCart_2 : decode cX7_isCart 2 = .ok (.aload_n 0, 1) := by decide +kernel
theorem dX7_isCart_3 : decode cX7_isCart 3 = .ok (.getfield 7, 3) := by decide +kernel
theorem dX7_isCart_6 : decode cX7_isCart 6 = .ok (.bipush 6, 2) := by decide +kernel
