theorem dX7_net_1 : decode cX7_net 1 = .ok (.iload_n 1, 1) := by decide +kernel
theorem dX7_net_2 : decode cX7_net 2 = .ok (.iconst 1, 1) := by decide +kernel
theorem dX7_net_3 : decode cX7_net 3 = .ok (.invokevirtual 54, 3) := by decide +kernel
theorem dX7_net_6 : decode cX7_net 6 = .ok (.bipush (-5), 2) := by decide +kernel
theorem dX7_net_8 : decode cX7_net 8 = .ok (.if_icmp .eq 14, 3) := by decide +kernel
theorem dX7_net_11 : decode cX7_net 11 = .ok (.aload_n 0, 1) := by decide +kernel
theorem dX7_net_12 : decode cX7_net 12 = .ok (.iload_n 1, 1) := by decide +kernel
theorem dX7_net_13 : decode cX7_net 13 = .ok (.iconst 2, 1) := by decide +kernel
theorem dX7_net_14 : decode cX7_net 14 = .ok (.invokevirtual 54, 3) := by decide +kernel
theorem dX7_net_17 : decode cX7_net 17 = .ok (.bipush (-5), 2) := by decide +kernel
theorem dX7_net_19 : decode cX7_net 19 = .ok (.if_icmp .ne 8, 3) := by decide +kernel
theorem dX7_net_22 : decode cX7_net 22 = .ok (.bipush (-5), 2) := by decide +kernel
theorem dX7_net_24 : decode cX7_net 24 = .ok (.goto 20, 3) := by decide +kernel
theorem dX7_net_27 : decode cX7_net 27 = .ok (.aload_n 0, 1) := by decide +kernel
theorem dX7_net_28 : decode cX7_net 28 = .ok (.iload_n 1, 1) := by decide +kernel
theorem dX7_net_29 : decode cX7_net 29 = .ok (.iconst 2, 1) := by decide +kernel
theorem dX7_net_30 : decode cX7_net 30 = .ok (.invokevirtual 54, 3) := by decide +kernel
theorem dX7_net_33 : decode cX7_net 33 = .ok (.aload_n 0, 1) := by decide +kernel
theorem dX7_net_34 : decode cX7_net 34 = .ok (.iload_n 1, 1) := by decide +kernel
theorem dX7_net_35 : decode cX7_net 35 = .ok (.iconst 1, 1) := by decide +kernel
theorem dX7_net_36 : decode cX7_net 36 = .ok (.invokevirtual 54, 3) := by decide +kernel
theorem dX7_net_39 : decode cX7_net 39 = .ok (.isub, 1) := by decide +kernel
theorem dX7_net_40 : decode cX7_net 40 = .ok (.sipush 1000, 3) := by decide +kernel
theorem dX7_net_43 : decode cX7_net 43 = .ok (.iadd, 1) := by decide +kernel
theorem dX7_net_44 : decode cX7_net 44 = .ok (.ireturn, 1) := by decide +kernel
theorem dX7_cartOf_0 : decode cX7_cartOf 0 = .ok (.aload_n 0, 1) := by decide +kernel
theorem dX7_cartOf_1 : decode cX7_cartOf 1 = .ok (.iload_n 1, 1) := by decide +kernel
theorem dX7_cartOf_2 : decode cX7_cartOf 2 = .ok (.invokevirtual 50, 3) := by decide +kernel
theorem dX7_cartOf_5 : decode cX7_cartOf 5 = .ok (.ifCond .ne 5, 3) := by decide +kernel
theorem dX7_cartOf_8 : decode cX7_cartOf 8 = .ok (.iconst (-1), 1) := by decide +kernel
theorem dX7_cartOf_9 : decode cX7_cartOf 9 = .ok (.ireturn, 1) := by decide +kernel
theorem dX7_cartOf_10 : decode cX7_cartOf 10 = .ok (.iload_n 2, 1) := by decide +kernel
theorem dX7_cartOf_11 : decode cX7_cartOf 11 = .ok (.tableswitch 111 0 8 #[49, 56, 62, 69, 77, 84, 91, 97, 104], 49) := by decide +kernel
theorem dX7_cartOf_60 : decode cX7_cartOf 60 = .ok (.aload_n 0, 1) := by decide +kernel
theorem dX7_cartOf_61 : decode cX7_cartOf 61 = .ok (.iload_n 1, 1) := by decide +kernel
theorem dX7_cartOf_62 : decode cX7_cartOf 62 = .ok (.iconst 0, 1) := by decide +kernel
theorem dX7_cartOf_63 : decode cX7_cartOf 63 = .ok (.invokevirtual 54, 3) := by decide +kernel
theorem dX7_cartOf_66 : decode cX7_cartOf 66 = .ok (.ireturn, 1) := by decide +kernel
theorem dX7_cartOf_67 : decode cX7_cartOf 67 = .ok (.aload_n 0, 1) := by decide +kernel
theorem dX7_cartOf_68 : decode cX7_cartOf 68 = .ok (.iload_n 1, 1) := by decide +kernel
theorem dX7_cartOf_69 : decode cX7_cartOf 69 = .ok (.invokevirtual 91, 3) := by decide +kernel
theorem dX7_cartOf_72 : decode cX7_cartOf 72 = .ok (.ireturn, 1) := by decide +kernel
theorem dX7_cartOf_73 : decode cX7_cartOf 73 = .ok (.aload_n 0, 1) := by decide +kernel
theorem dX7_cartOf_74 : decode cX7_cartOf 74 = .ok (.iload_n 1, 1) := by decide +kernel
theorem dX7_cartOf_75 : decode cX7_cartOf 75 = .ok (.iconst 5, 1) := by decide +kernel
theorem dX7_cartOf_76 : decode cX7_cartOf 76 = .ok (.invokevirtual 182, 3) := by decide +kernel
theorem dX7_cartOf_79 : decode cX7_cartOf 79 = .ok (.ireturn, 1) := by decide +kernel
theorem dX7_cartOf_80 : decode cX7_cartOf 80 = .ok (.aload_n 0, 1) := by decide +kernel
theorem dX7_cartOf_81 : decode cX7_cartOf 81 = .ok (.iload_n 1, 1) := by decide +kernel
theorem dX7_cartOf_82 : decode cX7_cartOf 82 = .ok (.bipush 10, 2) := by decide +kernel
theorem dX7_cartOf_84 : decode cX7_cartOf 84 = .ok (.invokevirtual 182, 3) := by decide +kernel
theorem dX7_cartOf_87 : decode cX7_cartOf 87 = .ok (.ireturn, 1) := by decide +kernel
theorem dX7_cartOf_88 : decode cX7_cartOf 88 = .ok (.aload_n 0, 1) := by decide +kernel
theorem dX7_cartOf_89 : decode cX7_cartOf 89 = .ok (.iload_n 1, 1) := by decide +kernel
theorem dX7_cartOf_90 : decode cX7_cartOf 90 = .ok (.iconst 1, 1) := by decide +kernel
theorem dX7_cartOf_91 : decode cX7_cartOf 91 = .ok (.invokevirtual 54, 3) := by decide +kernel
theorem dX7_cartOf_94 : decode cX7_cartOf 94 = .ok (.ireturn, 1) := by decide +kernel
theorem dX7_cartOf_95 : decode cX7_cartOf 95 = .ok (.aload_n 0, 1) := by decide +kernel
theorem dX7_cartOf_96 : decode cX7_cartOf 96 = .ok (.iload_n 1, 1) := by decide +kernel
theorem dX7_cartOf_97 : decode cX7_cartOf 97 = .ok (.iconst 2, 1) := by decide +kernel
theorem dX7_cartOf_98 : decode cX7_cartOf 98 = .ok (.invokevirtual 54, 3) := by decide +kernel
theorem dX7_cartOf_101 : decode cX7_cartOf 101 = .ok (.ireturn, 1) := by decide +kernel
theorem dX7_cartOf_102 : decode cX7_cartOf 102 = .ok (.aload_n 0, 1) := by decide +kernel
theorem dX7_cartOf_103 : decode cX7_cartOf 103 = .ok (.iload_n 1, 1) := by decide +kernel
theorem dX7_cartOf_104 : decode cX7_cartOf 104 = .ok (.invokevirtual 185, 3) := by decide +kernel
theorem dX7_cartOf_107 : decode cX7_cartOf 107 = .ok (.ireturn, 1) := by decide +kernel
theorem dX7_cartOf_108 : decode cX7_cartOf 108 = .ok (.aload_n 0, 1) := by decide +kernel
theorem dX7_cartOf_109 : decode cX7_cartOf 109 = .ok (.iload_n 1, 1) := by decide +kernel
theorem dX7_cartOf_110 : decode cX7_cartOf 110 = .ok (.iconst 3, 1) := by decide +kernel
theorem dX7_cartOf_111 : decode cX7_cartOf 111 = .ok (.invokevirtual 54, 3) := by decide +kernel
theorem dX7_cartOf_114 : decode cX7_cartOf 114 = .ok (.ireturn, 1) := by decide +kernel
theorem dX7_cartOf_115 : decode cX7_cartOf 115 = .ok (.aload_n 0, 1) := by decide +kernel
theorem dX7_cartOf_116 : decode cX7_cartOf 116 = .ok (.iload_n 1, 1) := by decide +kernel
theorem dX7_cartOf_117 : decode cX7_cartOf 117 = .ok (.iconst 4, 1) := by decide +kernel
theorem dX7_cartOf_118 : decode cX7_cartOf 118 = .ok (.invokevirtual 54, 3) := by decide +kernel
theorem dX7_cartOf_121 : decode cX7_cartOf 121 = .ok (.ireturn, 1) := by decide +kernel
theorem dX7_cartOf_122 : decode cX7_cartOf 122 = .ok (.bipush (-2), 2) := by decide +kernel
theorem dX7_cartOf_124 : decode cX7_cartOf 124 = .ok (.ireturn, 1) := by decide +kernel
theorem dX7_axleOf_0 : decode cX7_axleOf 0 = .ok (.aload_n 0, 1) := by decide +kernel
theorem dX7_axleOf_1 : decode cX7_axleOf 1 = .ok (.iload_n 1, 1) := by decide +kernel
theorem dX7_axleOf_2 : decode cX7_axleOf 2 = .ok (.iload_n 2, 1) := by decide +kernel
theorem dX7_axleOf_3 : decode cX7_axleOf 3 = .ok (.invokevirtual 84, 3) := by decide +kernel
theorem dX7_axleOf_6 : decode cX7_axleOf 6 = .ok (.ifCond .ne 5, 3) := by decide +kernel
theorem dX7_axleOf_9 : decode cX7_axleOf 9 = .ok (.iconst (-1), 1) := by decide +kernel
theorem dX7_axleOf_10 : decode cX7_axleOf 10 = .ok (.ireturn, 1) := by decide +kernel
theorem dX7_axleOf_11 : decode cX7_axleOf 11 = .ok (.iload_n 3, 1) := by decide +kernel
theorem dX7_axleOf_12 : decode cX7_axleOf 12 = .ok (.tableswitch 68 0 3 #[32, 41, 51, 61], 32) := by decide +kernel
theorem dX7_axleOf_44 : decode cX7_axleOf 44 = .ok (.aload_n 0, 1) := by decide +kernel
theorem dX7_axleOf_45 : decode cX7_axleOf 45 = .ok (.iload_n 1, 1) := by decide +kernel
theorem dX7_axleOf_46 : decode cX7_axleOf 46 = .ok (.iconst 5, 1) := by decide +kernel
theorem dX7_axleOf_47 : decode cX7_axleOf 47 = .ok (.iload_n 2, 1) := by decide +kernel
theorem dX7_axleOf_48 : decode cX7_axleOf 48 = .ok (.iadd, 1) := by decide +kernel
theorem dX7_axleOf_49 : decode cX7_axleOf 49 = .ok (.invokevirtual 54, 3) := by decide +kernel
theorem dX7_axleOf_52 : decode cX7_axleOf 52 = .ok (.ireturn, 1) := by decide +kernel
theorem dX7_axleOf_53 : decode cX7_axleOf 53 = .ok (.aload_n 0, 1) := by decide +kernel
theorem dX7_axleOf_54 : decode cX7_axleOf 54 = .ok (.iload_n 1, 1) := by decide +kernel
theorem dX7_axleOf_55 : decode cX7_axleOf 55 = .ok (.bipush 10, 2) := by decide +kernel
theorem dX7_axleOf_57 : decode cX7_axleOf 57 = .ok (.iload_n 2, 1) := by decide +kernel
theorem dX7_axleOf_58 : decode cX7_axleOf 58 = .ok (.iadd, 1) := by decide +kernel
theorem dX7_axleOf_59 : decode cX7_axleOf 59 = .ok (.invokevirtual 54, 3) := by decide +kernel
theorem dX7_axleOf_62 : decode cX7_axleOf 62 = .ok (.ireturn, 1) := by decide +kernel
theorem dX7_axleOf_63 : decode cX7_axleOf 63 = .ok (.aload_n 0, 1) := by decide +kernel
theorem dX7_axleOf_64 : decode cX7_axleOf 64 = .ok (.iload_n 1, 1) := by decide +kernel
theorem dX7_axleOf_65 : decode cX7_axleOf 65 = .ok (.bipush 15, 2) := by decide +kernel
theorem dX7_axleOf_67 : decode cX7_axleOf 67 = .ok (.iload_n 2, 1) := by decide +kernel
theorem dX7_axleOf_68 : decode cX7_axleOf 68 = .ok (.iadd, 1) := by decide +kernel
theorem dX7_axleOf_69 : decode cX7_axleOf 69 = .ok (.invokevirtual 54, 3) := by decide +kernel
theorem dX7_axleOf_72 : decode cX7_axleOf 72 = .ok (.ireturn, 1) := by decide +kernel
theorem dX7_axleOf_73 : decode cX7_axleOf 73 = .ok (.aload_n 0, 1) := by decide +kernel
theorem dX7_axleOf_74 : decode cX7_axleOf 74 = .ok (.iload_n 1, 1) := by decide +kernel
theorem dX7_axleOf_75 : decode cX7_axleOf 75 = .ok (.iload_n 2, 1) := by decide +kernel
theorem dX7_axleOf_76 : decode cX7_axleOf 76 = .ok (.invokevirtual 116, 3) := by decide +kernel
theorem dX7_axleOf_79 : decode cX7_axleOf 79 = .ok (.ireturn, 1) := by decide +kernel
theorem dX7_axleOf_80 : decode cX7_axleOf 80 = .ok (.bipush (-2), 2) := by decide +kernel
theorem dX7_axleOf_82 : decode cX7_axleOf 82 = .ok (.ireturn, 1) := by decide +kernel
theorem dX7_tick_0 : decode cX7_tick 0 = .ok (.aload_n 0, 1) := by decide +kernel
theorem dX7_tick_1 : decode cX7_tick 1 = .ok (.iload_n 1, 1) := by decide +kernel
theorem dX7_tick_2 : decode cX7_tick 2 = .ok (.invokevirtual 50, 3) := by decide +kernel
theorem dX7_tick_5 : decode cX7_tick 5 = .ok (.ifCond .ne 5, 3) := by decide +kernel
theorem dX7_tick_8 : decode cX7_tick 8 = .ok (.iconst (-1), 1) := by decide +kernel
theorem dX7_tick_9 : decode cX7_tick 9 = .ok (.ireturn, 1) := by decide +kernel
theorem dX7_tick_10 : decode cX7_tick 10 = .ok (.iload_n 2, 1) := by decide +kernel
theorem dX7_tick_11 : decode cX7_tick 11 = .ok (.iconst 1, 1) := by decide +kernel
theorem dX7_tick_12 : decode cX7_tick 12 = .ok (.bipush 9, 2) := by decide +kernel
theorem dX7_tick_14 : decode cX7_tick 14 = .ok (.invokestatic 46, 3) := by decide +kernel
theorem dX7_tick_17 : decode cX7_tick 17 = .ok (.ifCond .ne 6, 3) := by decide +kernel
theorem dX7_tick_20 : decode cX7_tick 20 = .ok (.bipush (-2), 2) := by decide +kernel
theorem dX7_tick_22 : decode cX7_tick 22 = .ok (.ireturn, 1) := by decide +kernel
theorem dX7_tick_23 : decode cX7_tick 23 = .ok (.aload_n 0, 1) := by decide +kernel
theorem dX7_tick_24 : decode cX7_tick 24 = .ok (.iload_n 1, 1) := by decide +kernel
theorem dX7_tick_25 : decode cX7_tick 25 = .ok (.iload_n 2, 1) := by decide +kernel
theorem dX7_tick_26 : decode cX7_tick 26 = .ok (.invokevirtual 147, 3) := by decide +kernel
theorem dX7_tick_29 : decode cX7_tick 29 = .ok (.iload_n 3, 1) := by decide +kernel
theorem dX7_tick_30 : decode cX7_tick 30 = .ok (.iconst 0, 1) := by decide +kernel
theorem dX7_tick_31 : decode cX7_tick 31 = .ok (.aload_n 0, 1) := by decide +kernel
theorem dX7_tick_32 : decode cX7_tick 32 = .ok (.invokevirtual 121, 3) := by decide +kernel
theorem dX7_tick_35 : decode cX7_tick 35 = .ok (.iconst 1, 1) := by decide +kernel
theorem dX7_tick_36 : decode cX7_tick 36 = .ok (.isub, 1) := by decide +kernel
theorem dX7_tick_37 : decode cX7_tick 37 = .ok (.invokestatic 46, 3) := by decide +kernel
theorem dX7_tick_40 : decode cX7_tick 40 = .ok (.ifCond .ne 5, 3) := by decide +kernel
theorem dX7_tick_43 : decode cX7_tick 43 = .ok (.iconst (-1), 1) := by decide +kernel
theorem dX7_tick_44 : decode cX7_tick 44 = .ok (.ireturn, 1) := by decide +kernel
theorem dX7_tick_45 : decode cX7_tick 45 = .ok (.iload 4, 2) := by decide +kernel
theorem dX7_tick_47 : decode cX7_tick 47 = .ok (.tableswitch 68 0 4 #[33, 40, 47, 54, 61], 33) := by decide +kernel
theorem dX7_tick_80 : decode cX7_tick 80 = .ok (.aload_n 0, 1) := by decide +kernel
theorem dX7_tick_81 : decode cX7_tick 81 = .ok (.getfield 28, 3) := by decide +kernel
theorem dX7_tick_84 : decode cX7_tick 84 = .ok (.iload_n 3, 1) := by decide +kernel
theorem dX7_tick_85 : decode cX7_tick 85 = .ok (.iaload, 1) := by decide +kernel
theorem dX7_tick_86 : decode cX7_tick 86 = .ok (.ireturn, 1) := by decide +kernel
theorem dX7_tick_87 : decode cX7_tick 87 = .ok (.aload_n 0, 1) := by decide +kernel
theorem dX7_tick_88 : decode cX7_tick 88 = .ok (.getfield 31, 3) := by decide +kernel
theorem dX7_tick_91 : decode cX7_tick 91 = .ok (.iload_n 3, 1) := by decide +kernel
theorem dX7_tick_92 : decode cX7_tick 92 = .ok (.iaload, 1) := by decide +kernel
theorem dX7_tick_93 : decode cX7_tick 93 = .ok (.ireturn, 1) := by decide +kernel
theorem dX7_tick_94 : decode cX7_tick 94 = .ok (.aload_n 0, 1) := by decide +kernel
theorem dX7_tick_95 : decode cX7_tick 95 = .ok (.getfield 34, 3) := by decide +kernel
theorem dX7_tick_98 : decode cX7_tick 98 = .ok (.iload_n 3, 1) := by decide +kernel
theorem dX7_tick_99 : decode cX7_tick 99 = .ok (.iaload, 1) := by decide +kernel
theorem dX7_tick_100 : decode cX7_tick 100 = .ok (.ireturn, 1) := by decide +kernel
theorem dX7_tick_101 : decode cX7_tick 101 = .ok (.aload_n 0, 1) := by decide +kernel
theorem dX7_tick_102 : decode cX7_tick 102 = .ok (.getfield 37, 3) := by decide +kernel
theorem dX7_tick_105 : decode cX7_tick 105 = .ok (.iload_n 3, 1) := by decide +kernel
theorem dX7_tick_106 : decode cX7_tick 106 = .ok (.iaload, 1) := by decide +kernel
theorem dX7_tick_107 : decode cX7_tick 107 = .ok (.ireturn, 1) := by decide +kernel
theorem dX7_tick_108 : decode cX7_tick 108 = .ok (.aload_n 0, 1) := by decide +kernel
theorem dX7_tick_109 : decode cX7_tick 109 = .ok (.getfield 40, 3) := by decide +kernel
theorem dX7_tick_112 : decode cX7_tick 112 = .ok (.iload_n 3, 1) := by decide +kernel
theorem dX7_tick_113 : decode cX7_tick 113 = .ok (.iaload, 1) := by decide +kernel
theorem dX7_tick_114 : decode cX7_tick 114 = .ok (.ireturn, 1) := by decide +kernel
theorem dX7_tick_115 : decode cX7_tick 115 = .ok (.bipush (-2), 2) := by decide +kernel
theorem dX7_tick_117 : decode cX7_tick 117 = .ok (.ireturn, 1) := by decide +kernel
theorem dX7_runOf_0 : decode cX7_runOf 0 = .ok (.aload_n 0, 1) := by decide +kernel
theorem dX7_runOf_1 : decode cX7_runOf 1 = .ok (.iload_n 1, 1) := by decide +kernel
theorem dX7_runOf_2 : decode cX7_runOf 2 = .ok (.invokevirtual 50, 3) := by decide +kernel
theorem dX7_runOf_5 : decode cX7_runOf 5 = .ok (.ifCond .ne 5, 3) := by decide +kernel
theorem dX7_runOf_8 : decode cX7_runOf 8 = .ok (.iconst (-1), 1) := by decide +kernel
theorem dX7_runOf_9 : decode cX7_runOf 9 = .ok (.ireturn, 1) := by decide +kernel
theorem dX7_runOf_10 : decode cX7_runOf 10 = .ok (.iload_n 2, 1) := by decide +kernel
theorem dX7_runOf_11 : decode cX7_runOf 11 = .ok (.iconst 1, 1) := by decide +kernel
theorem dX7_runOf_12 : decode cX7_runOf 12 = .ok (.bipush 9, 2) := by decide +kernel
theorem dX7_runOf_14 : decode cX7_runOf 14 = .ok (.invokestatic 46, 3) := by decide +kernel
theorem dX7_runOf_17 : decode cX7_runOf 17 = .ok (.ifCond .ne 6, 3) := by decide +kernel
theorem dX7_runOf_20 : decode cX7_runOf 20 = .ok (.bipush (-2), 2) := by decide +kernel
theorem dX7_runOf_22 : decode cX7_runOf 22 = .ok (.ireturn, 1) := by decide +kernel
theorem dX7_runOf_23 : decode cX7_runOf 23 = .ok (.aload_n 0, 1) := by decide +kernel
theorem dX7_runOf_24 : decode cX7_runOf 24 = .ok (.iload_n 1, 1) := by decide +kernel
theorem dX7_runOf_25 : decode cX7_runOf 25 = .ok (.iload_n 2, 1) := by decide +kernel
theorem dX7_runOf_26 : decode cX7_runOf 26 = .ok (.invokevirtual 147, 3) := by decide +kernel
theorem dX7_runOf_29 : decode cX7_runOf 29 = .ok (.aload_n 0, 1) := by decide +kernel
theorem dX7_runOf_30 : decode cX7_runOf 30 = .ok (.iload_n 1, 1) := by decide +kernel
theorem dX7_runOf_31 : decode cX7_runOf 31 = .ok (.iload_n 2, 1) := by decide +kernel
theorem dX7_runOf_32 : decode cX7_runOf 32 = .ok (.invokevirtual 151, 3) := by decide +kernel
theorem dX7_runOf_35 : decode cX7_runOf 35 = .ok (.istore 4, 2) := by decide +kernel
theorem dX7_runOf_37 : decode cX7_runOf 37 = .ok (.iload_n 3, 1) := by decide +kernel
theorem dX7_runOf_38 : decode cX7_runOf 38 = .ok (.tableswitch 144 0 8 #[50, 65, 68, 73, 78, 83, 103, 110, 139], 50) := by decide +kernel
theorem dX7_runOf_88 : decode cX7_runOf 88 = .ok (.iload 4, 2) := by decide +kernel
theorem dX7_runOf_90 : decode cX7_runOf 90 = .ok (.ifCond .ne 10, 3) := by decide +kernel
theorem dX7_runOf_93 : decode cX7_runOf 93 = .ok (.aload_n 0, 1) := by decide +kernel
theorem dX7_runOf_94 : decode cX7_runOf 94 = .ok (.getfield 104, 3) := by decide +kernel
theorem dX7_runOf_97 : decode cX7_runOf 97 = .ok (.goto 5, 3) := by decide +kernel
theorem dX7_runOf_100 : decode cX7_runOf 100 = .ok (.bipush (-5), 2) := by decide +kernel
theorem dX7_runOf_102 : decode cX7_runOf 102 = .ok (.ireturn, 1) := by decide +kernel
theorem dX7_runOf_103 : decode cX7_runOf 103 = .ok (.iload 4, 2) := by decide +kernel
theorem dX7_runOf_105 : decode cX7_runOf 105 = .ok (.ireturn, 1) := by decide +kernel
theorem dX7_runOf_106 : decode cX7_runOf 106 = .ok (.aload_n 0, 1) := by decide +kernel
theorem dX7_runOf_107 : decode cX7_runOf 107 = .ok (.invokevirtual 121, 3) := by decide +kernel
theorem dX7_runOf_110 : decode cX7_runOf 110 = .ok (.ireturn, 1) := by decide +kernel
theorem dX7_runOf_111 : decode cX7_runOf 111 = .ok (.aload_n 0, 1) := by decide +kernel
theorem dX7_runOf_112 : decode cX7_runOf 112 = .ok (.getfield 101, 3) := by decide +kernel
theorem dX7_runOf_115 : decode cX7_runOf 115 = .ok (.ireturn, 1) := by decide +kernel
theorem dX7_runOf_116 : decode cX7_runOf 116 = .ok (.aload_n 0, 1) := by decide +kernel
theorem dX7_runOf_117 : decode cX7_runOf 117 = .ok (.getfield 104, 3) := by decide +kernel
theorem dX7_runOf_120 : decode cX7_runOf 120 = .ok (.ireturn, 1) := by decide +kernel
theorem dX7_runOf_121 : decode cX7_runOf 121 = .ok (.aload_n 0, 1) := by decide +kernel
theorem dX7_runOf_122 : decode cX7_runOf 122 = .ok (.getfield 7, 3) := by decide +kernel
theorem dX7_runOf_125 : decode cX7_runOf 125 = .ok (.iconst 5, 1) := by decide +kernel
theorem dX7_runOf_126 : decode cX7_runOf 126 = .ok (.iaload, 1) := by decide +kernel
theorem dX7_runOf_127 : decode cX7_runOf 127 = .ok (.aload_n 0, 1) := by decide +kernel
theorem dX7_runOf_128 : decode cX7_runOf 128 = .ok (.getfield 7, 3) := by decide +kernel
theorem dX7_runOf_131 : decode cX7_runOf 131 = .ok (.iconst 5, 1) := by decide +kernel
theorem dX7_runOf_132 : decode cX7_runOf 132 = .ok (.iaload, 1) := by decide +kernel
theorem dX7_runOf_133 : decode cX7_runOf 133 = .ok (.iload_n 2, 1) := by decide +kernel
theorem dX7_runOf_134 : decode cX7_runOf 134 = .ok (.iadd, 1) := by decide +kernel
theorem dX7_runOf_135 : decode cX7_runOf 135 = .ok (.iconst 1, 1) := by decide +kernel
theorem dX7_runOf_136 : decode cX7_runOf 136 = .ok (.isub, 1) := by decide +kernel
theorem dX7_runOf_137 : decode cX7_runOf 137 = .ok (.iload_n 2, 1) := by decide +kernel
theorem dX7_runOf_138 : decode cX7_runOf 138 = .ok (.idiv, 1) := by decide +kernel
theorem dX7_runOf_139 : decode cX7_runOf 139 = .ok (.idiv, 1) := by decide +kernel
theorem dX7_runOf_140 : decode cX7_runOf 140 = .ok (.ireturn, 1) := by decide +kernel
theorem dX7_runOf_141 : decode cX7_runOf 141 = .ok (.aload_n 0, 1) := by decide +kernel
theorem dX7_runOf_142 : decode cX7_runOf 142 = .ok (.iload_n 1, 1) := by decide +kernel
theorem dX7_runOf_143 : decode cX7_runOf 143 = .ok (.iload_n 2, 1) := by decide +kernel
theorem dX7_runOf_144 : decode cX7_runOf 144 = .ok (.invokevirtual 144, 3) := by decide +kernel
theorem dX7_runOf_147 : decode cX7_runOf 147 = .ok (.ireturn, 1) := by decide +kernel
theorem dX7_runOf_148 : decode cX7_runOf 148 = .ok (.iload 4, 2) := by decide +kernel
theorem dX7_runOf_150 : decode cX7_runOf 150 = .ok (.iconst 3, 1) := by decide +kernel
theorem dX7_runOf_151 : decode cX7_runOf 151 = .ok (.if_icmp .ne 23, 3) := by decide +kernel
theorem dX7_runOf_154 : decode cX7_runOf 154 = .ok (.aload_n 0, 1) := by decide +kernel
theorem dX7_runOf_155 : decode cX7_runOf 155 = .ok (.getfield 110, 3) := by decide +kernel
theorem dX7_runOf_158 : decode cX7_runOf 158 = .ok (.aload_n 0, 1) := by decide +kernel
theorem dX7_runOf_159 : decode cX7_runOf 159 = .ok (.iload_n 1, 1) := by decide +kernel
theorem dX7_runOf_160 : decode cX7_runOf 160 = .ok (.iload_n 2, 1) := by decide +kernel
theorem dX7_runOf_161 : decode cX7_runOf 161 = .ok (.invokevirtual 144, 3) := by decide +kernel
theorem dX7_runOf_164 : decode cX7_runOf 164 = .ok (.if_icmp .ne 10, 3) := by decide +kernel
theorem dX7_runOf_167 : decode cX7_runOf 167 = .ok (.aload_n 0, 1) := by decide +kernel
theorem dX7_runOf_168 : decode cX7_runOf 168 = .ok (.getfield 113, 3) := by decide +kernel
theorem dX7_runOf_171 : decode cX7_runOf 171 = .ok (.goto 5, 3) := by decide +kernel
theorem dX7_runOf_174 : decode cX7_runOf 174 = .ok (.bipush (-5), 2) := by decide +kernel
theorem dX7_runOf_176 : decode cX7_runOf 176 = .ok (.ireturn, 1) := by decide +kernel
theorem dX7_runOf_177 : decode cX7_runOf 177 = .ok (.aload_n 0, 1) := by decide +kernel
theorem dX7_runOf_178 : decode cX7_runOf 178 = .ok (.getfield 107, 3) := by decide +kernel
theorem dX7_runOf_181 : decode cX7_runOf 181 = .ok (.ireturn, 1) := by decide +kernel
theorem dX7_runOf_182 : decode cX7_runOf 182 = .ok (.bipush (-2), 2) := by decide +kernel
theorem dX7_runOf_184 : decode cX7_runOf 184 = .ok (.ireturn, 1) := by decide +kernel
theorem dX7_count_0 : decode cX7_count 0 = .ok (.iload_n 1, 1) := by decide +kernel
theorem dX7_count_1 : decode cX7_count 1 = .ok (.tableswitch 98 0 11 #[63, 63, 63, 73, 78, 83, 88, 88, 88, 88, 88, 88], 63) := by decide +kernel
theorem dX7_count_64 : decode cX7_count 64 = .ok (.aload_n 0, 1) := by decide +kernel
theorem dX7_count_65 : decode cX7_count 65 = .ok (.getfield 7, 3) := by decide +kernel
theorem dX7_count_68 : decode cX7_count 68 = .ok (.bipush 6, 2) := by decide +kernel
theorem dX7_count_70 : decode cX7_count 70 = .ok (.iload_n 1, 1) := by decide +kernel
theorem dX7_count_71 : decode cX7_count 71 = .ok (.iadd, 1) := by decide +kernel
theorem dX7_count_72 : decode cX7_count 72 = .ok (.iaload, 1) := by decide +kernel
theorem dX7_count_73 : decode cX7_count 73 = .ok (.ireturn, 1) := by decide +kernel
theorem dX7_count_74 : decode cX7_count 74 = .ok (.aload_n 0, 1) := by decide +kernel
theorem dX7_count_75 : decode cX7_count 75 = .ok (.invokevirtual 188, 3) := by decide +kernel
theorem dX7_count_78 : decode cX7_count 78 = .ok (.ireturn, 1) := by decide +kernel
theorem dX7_count_79 : decode cX7_count 79 = .ok (.aload_n 0, 1) := by decide +kernel
theorem dX7_count_80 : decode cX7_count 80 = .ok (.getfield 58, 3) := by decide +kernel
theorem dX7_count_83 : decode cX7_count 83 = .ok (.ireturn, 1) := by decide +kernel
theorem dX7_count_84 : decode cX7_count 84 = .ok (.aload_n 0, 1) := by decide +kernel
theorem dX7_count_85 : decode cX7_count 85 = .ok (.getfield 157, 3) := by decide +kernel
theorem dX7_count_88 : decode cX7_count 88 = .ok (.ireturn, 1) := by decide +kernel
theorem dX7_count_89 : decode cX7_count 89 = .ok (.aload_n 0, 1) := by decide +kernel
theorem dX7_count_90 : decode cX7_count 90 = .ok (.getfield 7, 3) := by decide +kernel
theorem dX7_count_93 : decode cX7_count 93 = .ok (.iload_n 1, 1) := by decide +kernel
theorem dX7_count_94 : decode cX7_count 94 = .ok (.bipush 6, 2) := by decide +kernel
theorem dX7_count_96 : decode cX7_count 96 = .ok (.isub, 1) := by decide +kernel
theorem dX7_count_97 : decode cX7_count 97 = .ok (.iaload, 1) := by decide +kernel
theorem dX7_count_98 : decode cX7_count 98 = .ok (.ireturn, 1) := by decide +kernel
theorem dX7_count_99 : decode cX7_count 99 = .ok (.bipush (-2), 2) := by decide +kernel
theorem dX7_count_101 : decode cX7_count 101 = .ok (.ireturn, 1) := by decide +kernel
theorem dX7_withTare_0 : decode cX7_withTare 0 = .ok (.iconst 0, 1) := by decide +kernel
theorem dX7_withTare_1 : decode cX7_withTare 1 = .ok (.istore_n 1, 1) := by decide +kernel
theorem dX7_withTare_2 : decode cX7_withTare 2 = .ok (.iconst 0, 1) := by decide +kernel
theorem dX7_withTare_3 : decode cX7_withTare 3 = .ok (.istore_n 2, 1) := by decide +kernel
theorem dX7_withTare_4 : decode cX7_withTare 4 = .ok (.iload_n 2, 1) := by decide +kernel
theorem dX7_withTare_5 : decode cX7_withTare 5 = .ok (.aload_n 0, 1) := by decide +kernel
theorem dX7_withTare_6 : decode cX7_withTare 6 = .ok (.getfield 7, 3) := by decide +kernel
theorem dX7_withTare_9 : decode cX7_withTare 9 = .ok (.bipush 6, 2) := by decide +kernel
theorem dX7_withTare_11 : decode cX7_withTare 11 = .ok (.iaload, 1) := by decide +kernel
theorem dX7_withTare_12 : decode cX7_withTare 12 = .ok (.if_icmp .ge 28, 3) := by decide +kernel
theorem dX7_withTare_15 : decode cX7_withTare 15 = .ok (.iload_n 1, 1) := by decide +kernel
theorem dX7_withTare_16 : decode cX7_withTare 16 = .ok (.aload_n 0, 1) := by decide +kernel
theorem dX7_withTare_17 : decode cX7_withTare 17 = .ok (.iload_n 2, 1) := by decide +kernel
theorem dX7_withTare_18 : decode cX7_withTare 18 = .ok (.iconst 1, 1) := by decide +kernel
theorem dX7_withTare_19 : decode cX7_withTare 19 = .ok (.invokevirtual 54, 3) := by decide +kernel
theorem dX7_withTare_22 : decode cX7_withTare 22 = .ok (.bipush (-5), 2) := by decide +kernel
theorem dX7_withTare_24 : decode cX7_withTare 24 = .ok (.if_icmp .ne 7, 3) := by decide +kernel
theorem dX7_withTare_27 : decode cX7_withTare 27 = .ok (.iconst 0, 1) := by decide +kernel
theorem dX7_withTare_28 : decode cX7_withTare 28 = .ok (.goto 4, 3) := by decide +kernel
theorem dX7_withTare_31 : decode cX7_withTare 31 = .ok (.iconst 1, 1) := by decide +kernel
theorem dX7_withTare_32 : decode cX7_withTare 32 = .ok (.iadd, 1) := by decide +kernel
theorem dX7_withTare_33 : decode cX7_withTare 33 = .ok (.istore_n 1, 1) := by decide +kernel
theorem dX7_withTare_34 : decode cX7_withTare 34 = .ok (.iinc 2 1, 3) := by decide +kernel
theorem dX7_withTare_37 : decode cX7_withTare 37 = .ok (.goto (-33), 3) := by decide +kernel
theorem dX7_withTare_40 : decode cX7_withTare 40 = .ok (.iload_n 1, 1) := by decide +kernel
theorem dX7_withTare_41 : decode cX7_withTare 41 = .ok (.ireturn, 1) := by decide +kernel
theorem dX7_off_0 : decode cX7_off 0 = .ok (.aload_n 0, 1) := by decide +kernel
theorem dX7_off_1 : decode cX7_off 1 = .ok (.iload_n 1, 1) := by decide +kernel
theorem dX7_off_2 : decode cX7_off 2 = .ok (.invokevirtual 50, 3) := by decide +kernel
theorem dX7_off_5 : decode cX7_off 5 = .ok (.ifCond .eq 13, 3) := by decide +kernel
theorem dX7_off_8 : decode cX7_off 8 = .ok (.iload_n 2, 1) := by decide +kernel
theorem dX7_off_9 : decode cX7_off 9 = .ok (.iconst 1, 1) := by decide +kernel
theorem dX7_off_10 : decode cX7_off 10 = .ok (.bipush 9, 2) := by decide +kernel
theorem dX7_off_12 : decode cX7_off 12 = .ok (.invokestatic 46, 3) := by decide +kernel
theorem dX7_off_15 : decode cX7_off 15 = .ok (.ifCond .ne 5, 3) := by decide +kernel
theorem dX7_off_18 : decode cX7_off 18 = .ok (.fconst 2, 1) := by decide +kernel
theorem dX7_off_19 : decode cX7_off 19 = .ok (.freturn, 1) := by decide +kernel
theorem dX7_off_20 : decode cX7_off 20 = .ok (.aload_n 0, 1) := by decide +kernel
theorem dX7_off_21 : decode cX7_off 21 = .ok (.iload_n 1, 1) := by decide +kernel
theorem dX7_off_22 : decode cX7_off 22 = .ok (.iload_n 2, 1) := by decide +kernel
theorem dX7_off_23 : decode cX7_off 23 = .ok (.invokevirtual 147, 3) := by decide +kernel
theorem dX7_off_26 : decode cX7_off 26 = .ok (.aload_n 0, 1) := by decide +kernel
theorem dX7_off_27 : decode cX7_off 27 = .ok (.iload_n 1, 1) := by decide +kernel
theorem dX7_off_28 : decode cX7_off 28 = .ok (.iload_n 2, 1) := by decide +kernel
theorem dX7_off_29 : decode cX7_off 29 = .ok (.invokevirtual 151, 3) := by decide +kernel
theorem dX7_off_32 : decode cX7_off 32 = .ok (.ifCond .le 5, 3) := by decide +kernel
theorem dX7_off_35 : decode cX7_off 35 = .ok (.fconst 2, 1) := by decide +kernel
theorem dX7_off_36 : decode cX7_off 36 = .ok (.freturn, 1) := by decide +kernel
theorem dX7_off_37 : decode cX7_off 37 = .ok (.aload_n 0, 1) := by decide +kernel
theorem dX7_off_38 : decode cX7_off 38 = .ok (.getfield 104, 3) := by decide +kernel
theorem dX7_off_41 : decode cX7_off 41 = .ok (.aload_n 0, 1) := by decide +kernel
theorem dX7_off_42 : decode cX7_off 42 = .ok (.iload_n 1, 1) := by decide +kernel
theorem dX7_off_43 : decode cX7_off 43 = .ok (.iconst 5, 1) := by decide +kernel
theorem dX7_off_44 : decode cX7_off 44 = .ok (.invokevirtual 182, 3) := by decide +kernel
theorem dX7_off_47 : decode cX7_off 47 = .ok (.isub, 1) := by decide +kernel
theorem dX7_off_48 : decode cX7_off 48 = .ok (.i2f, 1) := by decide +kernel
theorem dX7_off_49 : decode cX7_off 49 = .ok (.fstore_n 3, 1) := by decide +kernel
theorem dX7_off_50 : decode cX7_off 50 = .ok (.aload_n 0, 1) := by decide +kernel
theorem dX7_off_51 : decode cX7_off 51 = .ok (.iload_n 1, 1) := by decide +kernel
theorem dX7_off_52 : decode cX7_off 52 = .ok (.iconst 5, 1) := by decide +kernel
theorem dX7_off_53 : decode cX7_off 53 = .ok (.invokevirtual 182, 3) := by decide +kernel
theorem dX7_off_56 : decode cX7_off 56 = .ok (.i2f, 1) := by decide +kernel
theorem dX7_off_57 : decode cX7_off 57 = .ok (.fstore 4, 2) := by decide +kernel
theorem dX7_off_59 : decode cX7_off 59 = .ok (.fload_n 3, 1) := by decide +kernel
theorem dX7_off_60 : decode cX7_off 60 = .ok (.fload 4, 2) := by decide +kernel
theorem dX7_off_62 : decode cX7_off 62 = .ok (.fdiv, 1) := by decide +kernel
theorem dX7_off_63 : decode cX7_off 63 = .ok (.freturn, 1) := by decide +kernel
theorem dX7_isNear_0 : decode cX7_isNear 0 = .ok (.aload_n 0, 1) := by decide +kernel
theorem dX7_isNear_1 : decode cX7_isNear 1 = .ok (.iload_n 1, 1) := by decide +kernel
theorem dX7_isNear_2 : decode cX7_isNear 2 = .ok (.iload_n 2, 1) := by decide +kernel
theorem dX7_isNear_3 : decode cX7_isNear 3 = .ok (.invokevirtual 147, 3) := by decide +kernel
theorem dX7_isNear_6 : decode cX7_isNear 6 = .ok (.aload_n 0, 1) := by decide +kernel
theorem dX7_isNear_7 : decode cX7_isNear 7 = .ok (.iload_n 1, 1) := by decide +kernel
theorem dX7_isNear_8 : decode cX7_isNear 8 = .ok (.iload_n 2, 1) := by decide +kernel
theorem dX7_isNear_9 : decode cX7_isNear 9 = .ok (.invokevirtual 151, 3) := by decide +kernel
theorem dX7_isNear_12 : decode cX7_isNear 12 = .ok (.ifCond .ne 30, 3) := by decide +kernel
theorem dX7_isNear_15 : decode cX7_isNear 15 = .ok (.aload_n 0, 1) := by decide +kernel
theorem dX7_isNear_16 : decode cX7_isNear 16 = .ok (.getfield 104, 3) := by decide +kernel
theorem dX7_isNear_19 : decode cX7_isNear 19 = .ok (.aload_n 0, 1) := by decide +kernel
theorem dX7_isNear_20 : decode cX7_isNear 20 = .ok (.iload_n 1, 1) := by decide +kernel
theorem dX7_isNear_21 : decode cX7_isNear 21 = .ok (.iconst 5, 1) := by decide +kernel
theorem dX7_isNear_22 : decode cX7_isNear 22 = .ok (.invokevirtual 182, 3) := by decide +kernel
theorem dX7_isNear_25 : decode cX7_isNear 25 = .ok (.isub, 1) := by decide +kernel
theorem dX7_isNear_26 : decode cX7_isNear 26 = .ok (.invokestatic 129, 3) := by decide +kernel
theorem dX7_isNear_29 : decode cX7_isNear 29 = .ok (.aload_n 0, 1) := by decide +kernel
theorem dX7_isNear_30 : decode cX7_isNear 30 = .ok (.getfield 7, 3) := by decide +kernel
theorem dX7_isNear_33 : decode cX7_isNear 33 = .ok (.iconst 4, 1) := by decide +kernel
theorem dX7_isNear_34 : decode cX7_isNear 34 = .ok (.iaload, 1) := by decide +kernel
theorem dX7_isNear_35 : decode cX7_isNear 35 = .ok (.if_icmp .gt 7, 3) := by decide +kernel
theorem dX7_isNear_38 : decode cX7_isNear 38 = .ok (.iconst 1, 1) := by decide +kernel
theorem dX7_isNear_39 : decode cX7_isNear 39 = .ok (.goto 4, 3) := by decide +kernel
theorem dX7_isNear_42 : decode cX7_isNear 42 = .ok (.iconst 0, 1) := by decide +kernel
theorem dX7_isNear_43 : decode cX7_isNear 43 = .ok (.ireturn, 1) := by decide +kernel
theorem dX7_fastest_0 : decode cX7_fastest 0 = .ok (.aload_n 0, 1) := by decide +kernel
theorem dX7_fastest_1 : decode cX7_fastest 1 = .ok (.iload_n 1, 1) := by decide +kernel
theorem dX7_fastest_2 : decode cX7_fastest 2 = .ok (.invokevirtual 50, 3) := by decide +kernel
theorem dX7_fastest_5 : decode cX7_fastest 5 = .ok (.ifCond .ne 5, 3) := by decide +kernel
theorem dX7_fastest_8 : decode cX7_fastest 8 = .ok (.iconst (-1), 1) := by decide +kernel
theorem dX7_fastest_9 : decode cX7_fastest 9 = .ok (.ireturn, 1) := by decide +kernel
theorem dX7_fastest_10 : decode cX7_fastest 10 = .ok (.bipush 9, 2) := by decide +kernel
theorem dX7_fastest_12 : decode cX7_fastest 12 = .ok (.istore_n 2, 1) := by decide +kernel
theorem dX7_fastest_13 : decode cX7_fastest 13 = .ok (.iload_n 2, 1) := by decide +kernel
theorem dX7_fastest_14 : decode cX7_fastest 14 = .ok (.ifCond .le 18, 3) := by decide +kernel
theorem dX7_fastest_17 : decode cX7_fastest 17 = .ok (.aload_n 0, 1) := by decide +kernel
theorem dX7_fastest_18 : decode cX7_fastest 18 = .ok (.iload_n 1, 1) := by decide +kernel
theorem dX7_fastest_19 : decode cX7_fastest 19 = .ok (.iload_n 2, 1) := by decide +kernel
theorem dX7_fastest_20 : decode cX7_fastest 20 = .ok (.invokevirtual 191, 3) := by decide +kernel
theorem dX7_fastest_23 : decode cX7_fastest 23 = .ok (.ifCond .ne 9, 3) := by decide +kernel
theorem dX7_fastest_26 : decode cX7_fastest 26 = .ok (.iinc 2 (-1), 3) := by decide +kernel
theorem dX7_fastest_29 : decode cX7_fastest 29 = .ok (.goto (-16), 3) := by decide +kernel
theorem dX7_fastest_32 : decode cX7_fastest 32 = .ok (.iload_n 2, 1) := by decide +kernel
theorem dX7_fastest_33 : decode cX7_fastest 33 = .ok (.ifCond .ne 8, 3) := by decide +kernel
theorem dX7_fastest_36 : decode cX7_fastest 36 = .ok (.bipush (-5), 2) := by decide +kernel
theorem dX7_fastest_38 : decode cX7_fastest 38 = .ok (.goto 4, 3) := by decide +kernel
theorem dX7_fastest_41 : decode cX7_fastest 41 = .ok (.iload_n 2, 1) := by decide +kernel
theorem dX7_fastest_42 : decode cX7_fastest 42 = .ok (.ireturn, 1) := by decide +kernel
theorem dX7_least_0 : decode cX7_least 0 = .ok (.aload_n 0, 1) := by decide +kernel
theorem dX7_least_1 : decode cX7_least 1 = .ok (.getfield 7, 3) := by decide +kernel
theorem dX7_least_4 : decode cX7_least 4 = .ok (.iload_n 3, 1) := by decide +kernel
theorem dX7_least_5 : decode cX7_least 5 = .ok (.iaload, 1) := by decide +kernel
theorem dX7_least_6 : decode cX7_least 6 = .ok (.istore 6, 2) := by decide +kernel
theorem dX7_least_8 : decode cX7_least 8 = .ok (.iload 4, 2) := by decide +kernel
theorem dX7_least_10 : decode cX7_least 10 = .ok (.istore 7, 2) := by decide +kernel
theorem dX7_least_12 : decode cX7_least 12 = .ok (.aload_n 0, 1) := by decide +kernel
theorem dX7_least_13 : decode cX7_least 13 = .ok (.getfield 7, 3) := by decide +kernel
theorem dX7_least_16 : decode cX7_least 16 = .ok (.iload_n 3, 1) := by decide +kernel
theorem dX7_least_17 : decode cX7_least 17 = .ok (.iload 4, 2) := by decide +kernel
theorem dX7_least_19 : decode cX7_least 19 = .ok (.iastore, 1) := by decide +kernel
theorem dX7_least_20 : decode cX7_least 20 = .ok (.iload 7, 2) := by decide +kernel
theorem dX7_least_22 : decode cX7_least 22 = .ok (.iload 5, 2) := by decide +kernel
theorem dX7_least_24 : decode cX7_least 24 = .ok (.if_icmp .gt 26, 3) := by decide +kernel
theorem dX7_least_27 : decode cX7_least 27 = .ok (.aload_n 0, 1) := by decide +kernel
theorem dX7_least_28 : decode cX7_least 28 = .ok (.iload_n 1, 1) := by decide +kernel
theorem dX7_least_29 : decode cX7_least 29 = .ok (.iload_n 2, 1) := by decide +kernel
theorem dX7_least_30 : decode cX7_least 30 = .ok (.invokevirtual 191, 3) := by decide +kernel
theorem dX7_least_33 : decode cX7_least 33 = .ok (.ifCond .ne 17, 3) := by decide +kernel
theorem dX7_least_36 : decode cX7_least 36 = .ok (.iinc 7 1, 3) := by decide +kernel
theorem dX7_least_39 : decode cX7_least 39 = .ok (.aload_n 0, 1) := by decide +kernel
theorem dX7_least_40 : decode cX7_least 40 = .ok (.getfield 7, 3) := by decide +kernel
theorem dX7_least_43 : decode cX7_least 43 = .ok (.iload_n 3, 1) := by decide +kernel
theorem dX7_least_44 : decode cX7_least 44 = .ok (.iload 7, 2) := by decide +kernel
theorem dX7_least_46 : decode cX7_least 46 = .ok (.iastore, 1) := by decide +kernel
theorem dX7_least_47 : decode cX7_least 47 = .ok (.goto (-27), 3) := by decide +kernel
theorem dX7_least_50 : decode cX7_least 50 = .ok (.aload_n 0, 1) := by decide +kernel
theorem dX7_least_51 : decode cX7_least 51 = .ok (.getfield 7, 3) := by decide +kernel
theorem dX7_least_54 : decode cX7_least 54 = .ok (.iload_n 3, 1) := by decide +kernel
theorem dX7_least_55 : decode cX7_least 55 = .ok (.iload 6, 2) := by decide +kernel
theorem dX7_least_57 : decode cX7_least 57 = .ok (.iastore, 1) := by decide +kernel
theorem dX7_least_58 : decode cX7_least 58 = .ok (.iload 7, 2) := by decide +kernel
theorem dX7_least_60 : decode cX7_least 60 = .ok (.iload 5, 2) := by decide +kernel
theorem dX7_least_62 : decode cX7_least 62 = .ok (.if_icmp .gt 8, 3) := by decide +kernel
theorem dX7_least_65 : decode cX7_least 65 = .ok (.iload 7, 2) := by decide +kernel
theorem dX7_least_67 : decode cX7_least 67 = .ok (.goto 5, 3) := by decide +kernel
theorem dX7_least_70 : decode cX7_least 70 = .ok (.bipush (-5), 2) := by decide +kernel
theorem dX7_least_72 : decode cX7_least 72 = .ok (.ireturn, 1) := by decide +kernel
theorem dX7_leastWindow_0 : decode cX7_leastWindow 0 = .ok (.aload_n 0, 1) := by decide +kernel
theorem dX7_leastWindow_1 : decode cX7_leastWindow 1 = .ok (.iload_n 1, 1) := by decide +kernel
theorem dX7_leastWindow_2 : decode cX7_leastWindow 2 = .ok (.invokevirtual 50, 3) := by decide +kernel
theorem dX7_leastWindow_5 : decode cX7_leastWindow 5 = .ok (.ifCond .ne 7, 3) := by decide +kernel
theorem dX7_leastWindow_8 : decode cX7_leastWindow 8 = .ok (.iconst (-1), 1) := by decide +kernel
theorem dX7_leastWindow_9 : decode cX7_leastWindow 9 = .ok (.goto 28, 3) := by decide +kernel
theorem dX7_leastWindow_12 : decode cX7_leastWindow 12 = .ok (.iload_n 2, 1) := by decide +kernel
theorem dX7_leastWindow_13 : decode cX7_leastWindow 13 = .ok (.iconst 1, 1) := by decide +kernel
theorem dX7_leastWindow_14 : decode cX7_leastWindow 14 = .ok (.bipush 9, 2) := by decide +kernel
theorem dX7_leastWindow_16 : decode cX7_leastWindow 16 = .ok (.invokestatic 46, 3) := by decide +kernel
theorem dX7_leastWindow_19 : decode cX7_leastWindow 19 = .ok (.ifCond .eq 16, 3) := by decide +kernel
theorem dX7_leastWindow_22 : decode cX7_leastWindow 22 = .ok (.aload_n 0, 1) := by decide +kernel
theorem dX7_leastWindow_23 : decode cX7_leastWindow 23 = .ok (.iload_n 1, 1) := by decide +kernel
theorem dX7_leastWindow_24 : decode cX7_leastWindow 24 = .ok (.iload_n 2, 1) := by decide +kernel
theorem dX7_leastWindow_25 : decode cX7_leastWindow 25 = .ok (.iconst 3, 1) := by decide +kernel
theorem dX7_leastWindow_26 : decode cX7_leastWindow 26 = .ok (.iconst 1, 1) := by decide +kernel
theorem dX7_leastWindow_27 : decode cX7_leastWindow 27 = .ok (.bipush 9, 2) := by decide +kernel
theorem dX7_leastWindow_29 : decode cX7_leastWindow 29 = .ok (.invokevirtual 194, 3) := by decide +kernel
theorem dX7_leastWindow_32 : decode cX7_leastWindow 32 = .ok (.goto 5, 3) := by decide +kernel
theorem dX7_leastWindow_35 : decode cX7_leastWindow 35 = .ok (.bipush (-2), 2) := by decide +kernel
theorem dX7_leastWindow_37 : decode cX7_leastWindow 37 = .ok (.ireturn, 1) := by decide +kernel
theorem dX7_shortestPlate_0 : decode cX7_shortestPlate 0 = .ok (.aload_n 0, 1) := by decide +kernel
theorem dX7_shortestPlate_1 : decode cX7_shortestPlate 1 = .ok (.iload_n 1, 1) := by decide +kernel
theorem dX7_shortestPlate_2 : decode cX7_shortestPlate 2 = .ok (.invokevirtual 50, 3) := by decide +kernel
theorem dX7_shortestPlate_5 : decode cX7_shortestPlate 5 = .ok (.ifCond .ne 7, 3) := by decide +kernel
theorem dX7_shortestPlate_8 : decode cX7_shortestPlate 8 = .ok (.iconst (-1), 1) := by decide +kernel
theorem dX7_shortestPlate_9 : decode cX7_shortestPlate 9 = .ok (.goto 29, 3) := by decide +kernel
theorem dX7_shortestPlate_12 : decode cX7_shortestPlate 12 = .ok (.iload_n 2, 1) := by decide +kernel
theorem dX7_shortestPlate_13 : decode cX7_shortestPlate 13 = .ok (.iconst 1, 1) := by decide +kernel
theorem dX7_shortestPlate_14 : decode cX7_shortestPlate 14 = .ok (.bipush 9, 2) := by decide +kernel
theorem dX7_shortestPlate_16 : decode cX7_shortestPlate 16 = .ok (.invokestatic 46, 3) := by decide +kernel
theorem dX7_shortestPlate_19 : decode cX7_shortestPlate 19 = .ok (.ifCond .eq 17, 3) := by decide +kernel
theorem dX7_shortestPlate_22 : decode cX7_shortestPlate 22 = .ok (.aload_n 0, 1) := by decide +kernel
theorem dX7_shortestPlate_23 : decode cX7_shortestPlate 23 = .ok (.iload_n 1, 1) := by decide +kernel
theorem dX7_shortestPlate_24 : decode cX7_shortestPlate 24 = .ok (.iload_n 2, 1) := by decide +kernel
theorem dX7_shortestPlate_25 : decode cX7_shortestPlate 25 = .ok (.iconst 0, 1) := by decide +kernel
theorem dX7_shortestPlate_26 : decode cX7_shortestPlate 26 = .ok (.bipush 10, 2) := by decide +kernel
theorem dX7_shortestPlate_28 : decode cX7_shortestPlate 28 = .ok (.bipush 90, 2) := by decide +kernel
theorem dX7_shortestPlate_30 : decode cX7_shortestPlate 30 = .ok (.invokevirtual 194, 3) := by decide +kernel
theorem dX7_shortestPlate_33 : decode cX7_shortestPlate 33 = .ok (.goto 5, 3) := by decide +kernel
theorem dX7_shortestPlate_36 : decode cX7_shortestPlate 36 = .ok (.bipush (-2), 2) := by decide +kernel
theorem dX7_shortestPlate_38 : decode cX7_shortestPlate 38 = .ok (.ireturn, 1) := by decide +kernel
theorem dJ9_abs_0f7a4_0 : decode cJ9_abs_0f7a4 0 = .ok (.iload_n 0, 1) := by decide +kernel
theorem dJ9_abs_0f7a4_1 : decode cJ9_abs_0f7a4 1 = .ok (.ifCond .ge 8, 3) := by decide +kernel
theorem dJ9_abs_0f7a4_4 : decode cJ9_abs_0f7a4 4 = .ok (.iload_n 0, 1) := by decide +kernel
theorem dJ9_abs_0f7a4_5 : decode cJ9_abs_0f7a4 5 = .ok (.ineg, 1) := by decide +kernel
theorem dJ9_abs_0f7a4_6 : decode cJ9_abs_0f7a4 6 = .ok (.goto 4, 3) := by decide +kernel
theorem dJ9_abs_0f7a4_9 : decode cJ9_abs_0f7a4 9 = .ok (.iload_n 0, 1) := by decide +kernel
theorem dJ9_abs_0f7a4_10 : decode cJ9_abs_0f7a4 10 = .ok (.ireturn, 1) := by decide +kernel
theorem dJ9_max_7cf53_0 : decode cJ9_max_7cf53 0 = .ok (.iload_n 0, 1) := by decide +kernel
theorem dJ9_max_7cf53_1 : decode cJ9_max_7cf53 1 = .ok (.iload_n 1, 1) := by decide +kernel
theorem dJ9_max_7cf53_2 : decode cJ9_max_7cf53 2 = .ok (.if_icmp .lt 7, 3) := by decide +kernel
theorem dJ9_max_7cf53_5 : decode cJ9_max_7cf53 5 = .ok (.iload_n 0, 1) := by decide +kernel
theorem dJ9_max_7cf53_6 : decode cJ9_max_7cf53 6 = .ok (.goto 4, 3) := by decide +kernel
theorem dJ9_max_7cf53_9 : decode cJ9_max_7cf53 9 = .ok (.iload_n 1, 1) := by decide +kernel
theorem dJ9_max_7cf53_10 : decode cJ9_max_7cf53 10 = .ok (.ireturn, 1) := by decide +kernel
theorem dJ9_min_7cf53_0 : decode cJ9_min_7cf53 0 = .ok (.iload_n 0, 1) := by decide +kernel
theorem dJ9_min_7cf53_1 : decode cJ9_min_7cf53 1 = .ok (.iload_n 1, 1) := by decide +kernel
theorem dJ9_min_7cf53_2 : decode cJ9_min_7cf53 2 = .ok (.if_icmp .gt 7, 3) := by decide +kernel
theorem dJ9_min_7cf53_5 : decode cJ9_min_7cf53 5 = .ok (.iload_n 0, 1) := by decide +kernel
theorem dJ9_min_7cf53_6 : decode cJ9_min_7cf53 6 = .ok (.goto 4, 3) := by decide +kernel
theorem dJ9_min_7cf53_9 : decode cJ9_min_7cf53 9 = .ok (.iload_n 1, 1) := by decide +kernel
theorem dJ9_min_7cf53_10 : decode cJ9_min_7cf53 10 = .ok (.ireturn, 1) := by decide +kernel
theorem dL_law_0 : decode cL_law 0 = .ok (.new 7, 3) := by decide +kernel
theorem dL_law_3 : decode cL_law 3 = .ok (.dup, 1) := by decide +kernel
theorem dL_law_4 : decode cL_law 4 = .ok (.invokespecial 9, 3) := by decide +kernel
theorem dL_law_7 : decode cL_law 7 = .ok (.astore_n 1, 1) := by decide +kernel
theorem dL_law_8 : decode cL_law 8 = .ok (.new 10, 3) := by decide +kernel
theorem dL_law_11 : decode cL_law 11 = .ok (.dup, 1) := by decide +kernel
theorem dL_law_12 : decode cL_law 12 = .ok (.invokespecial 12, 3) := by decide +kernel
theorem dL_law_15 : decode cL_law 15 = .ok (.astore_n 2, 1) := by decide +kernel
theorem dL_law_16 : decode cL_law 16 = .ok (.iconst 0, 1) := by decide +kernel
theorem dL_law_17 : decode cL_law 17 = .ok (.istore_n 3, 1) := by decide +kernel
theorem dL_law_18 : decode cL_law 18 = .ok (.iload_n 3, 1) := by decide +kernel
theorem dL_law_19 : decode cL_law 19 = .ok (.aload_n 0, 1) := by decide +kernel
theorem dL_law_20 : decode cL_law 20 = .ok (.arraylength, 1) := by decide +kernel
theorem dL_law_21 : decode cL_law 21 = .ok (.iconst 5, 1) := by decide +kernel
theorem dL_law_22 : decode cL_law 22 = .ok (.isub, 1) := by decide +kernel
theorem dL_law_23 : decode cL_law 23 = .ok (.if_icmp .gt 830, 3) := by decide +kernel
theorem dL_law_26 : decode cL_law 26 = .ok (.aload_n 0, 1) := by decide +kernel
theorem dL_law_27 : decode cL_law 27 = .ok (.iload_n 3, 1) := by decide +kernel
theorem dL_law_28 : decode cL_law 28 = .ok (.iaload, 1) := by decide +kernel
theorem dL_law_29 : decode cL_law 29 = .ok (.bipush 31, 2) := by decide +kernel
theorem dL_law_31 : decode cL_law 31 = .ok (.iand, 1) := by decide +kernel
theorem dL_law_32 : decode cL_law 32 = .ok (.tableswitch 815 0 22 #[108, 131, 174, 217, 276, 289, 322, 345, 378, 403, 416, 429, 442, 455, 468, 501, 544, 597, 640, 663, 726, 749, 782], 108) := by decide +kernel
theorem dL_law_140 : decode cL_law 140 = .ok (.aload_n 1, 1) := by decide +kernel
theorem dL_law_141 : decode cL_law 141 = .ok (.aload_n 0, 1) := by decide +kernel
theorem dL_law_142 : decode cL_law 142 = .ok (.iload_n 3, 1) := by decide +kernel
theorem dL_law_143 : decode cL_law 143 = .ok (.iconst 1, 1) := by decide +kernel
theorem dL_law_144 : decode cL_law 144 = .ok (.iadd, 1) := by decide +kernel
theorem dL_law_145 : decode cL_law 145 = .ok (.iaload, 1) := by decide +kernel
theorem dL_law_146 : decode cL_law 146 = .ok (.invokevirtual 13, 3) := by decide +kernel
theorem dL_law_149 : decode cL_law 149 = .ok (.aload_n 2, 1) := by decide +kernel
theorem dL_law_150 : decode cL_law 150 = .ok (.aload_n 0, 1) := by decide +kernel
theorem dL_law_151 : decode cL_law 151 = .ok (.iload_n 3, 1) := by decide +kernel
theorem dL_law_152 : decode cL_law 152 = .ok (.iconst 1, 1) := by decide +kernel
theorem dL_law_153 : decode cL_law 153 = .ok (.iadd, 1) := by decide +kernel
theorem dL_law_154 : decode cL_law 154 = .ok (.iaload, 1) := by decide +kernel
theorem dL_law_155 : decode cL_law 155 = .ok (.invokevirtual 17, 3) := by decide +kernel
theorem dL_law_158 : decode cL_law 158 = .ok (.if_icmp .eq 689, 3) := by decide +kernel
theorem dL_law_161 : decode cL_law 161 = .ok (.iconst 0, 1) := by decide +kernel
theorem dL_law_162 : decode cL_law 162 = .ok (.ireturn, 1) := by decide +kernel
theorem dL_law_163 : decode cL_law 163 = .ok (.aload_n 1, 1) := by decide +kernel
theorem dL_law_164 : decode cL_law 164 = .ok (.aload_n 0, 1) := by decide +kernel
theorem dL_law_165 : decode cL_law 165 = .ok (.iload_n 3, 1) := by decide +kernel
theorem dL_law_166 : decode cL_law 166 = .ok (.iconst 1, 1) := by decide +kernel
theorem dL_law_167 : decode cL_law 167 = .ok (.iadd, 1) := by decide +kernel
theorem dL_law_168 : decode cL_law 168 = .ok (.iaload, 1) := by decide +kernel
theorem dL_law_169 : decode cL_law 169 = .ok (.aload_n 0, 1) := by decide +kernel
theorem dL_law_170 : decode cL_law 170 = .ok (.iload_n 3, 1) := by decide +kernel
theorem dL_law_171 : decode cL_law 171 = .ok (.iconst 2, 1) := by decide +kernel
theorem dL_law_172 : decode cL_law 172 = .ok (.iadd, 1) := by decide +kernel
theorem dL_law_173 : decode cL_law 173 = .ok (.iaload, 1) := by decide +kernel
theorem dL_law_174 : decode cL_law 174 = .ok (.aload_n 0, 1) := by decide +kernel
theorem dL_law_175 : decode cL_law 175 = .ok (.iload_n 3, 1) := by decide +kernel
theorem dL_law_176 : decode cL_law 176 = .ok (.iconst 3, 1) := by decide +kernel
theorem dL_law_177 : decode cL_law 177 = .ok (.iadd, 1) := by decide +kernel
theorem dL_law_178 : decode cL_law 178 = .ok (.iaload, 1) := by decide +kernel
theorem dL_law_179 : decode cL_law 179 = .ok (.invokevirtual 18, 3) := by decide +kernel
theorem dL_law_182 : decode cL_law 182 = .ok (.aload_n 2, 1) := by decide +kernel
theorem dL_law_183 : decode cL_law 183 = .ok (.aload_n 0, 1) := by decide +kernel
theorem dL_law_184 : decode cL_law 184 = .ok (.iload_n 3, 1) := by decide +kernel
theorem dL_law_185 : decode cL_law 185 = .ok (.iconst 1, 1) := by decide +kernel
theorem dL_law_186 : decode cL_law 186 = .ok (.iadd, 1) := by decide +kernel
theorem dL_law_187 : decode cL_law 187 = .ok (.iaload, 1) := by decide +kernel
theorem dL_law_188 : decode cL_law 188 = .ok (.aload_n 0, 1) := by decide +kernel
theorem dL_law_189 : decode cL_law 189 = .ok (.iload_n 3, 1) := by decide +kernel
theorem dL_law_190 : decode cL_law 190 = .ok (.iconst 2, 1) := by decide +kernel
theorem dL_law_191 : decode cL_law 191 = .ok (.iadd, 1) := by decide +kernel
theorem dL_law_192 : decode cL_law 192 = .ok (.iaload, 1) := by decide +kernel
theorem dL_law_193 : decode cL_law 193 = .ok (.aload_n 0, 1) := by decide +kernel
theorem dL_law_194 : decode cL_law 194 = .ok (.iload_n 3, 1) := by decide +kernel
theorem dL_law_195 : decode cL_law 195 = .ok (.iconst 3, 1) := by decide +kernel
theorem dL_law_196 : decode cL_law 196 = .ok (.iadd, 1) := by decide +kernel
theorem dL_law_197 : decode cL_law 197 = .ok (.iaload, 1) := by decide +kernel
theorem dL_law_198 : decode cL_law 198 = .ok (.invokevirtual 22, 3) := by decide +kernel
theorem dL_law_201 : decode cL_law 201 = .ok (.if_icmp .eq 646, 3) := by decide +kernel
theorem dL_law_204 : decode cL_law 204 = .ok (.iconst 0, 1) := by decide +kernel
theorem dL_law_205 : decode cL_law 205 = .ok (.ireturn, 1) := by decide +kernel
theorem dL_law_206 : decode cL_law 206 = .ok (.aload_n 1, 1) := by decide +kernel
theorem dL_law_207 : decode cL_law 207 = .ok (.aload_n 0, 1) := by decide +kernel
theorem dL_law_208 : decode cL_law 208 = .ok (.iload_n 3, 1) := by decide +kernel
theorem dL_law_209 : decode cL_law 209 = .ok (.iconst 1, 1) := by decide +kernel
theorem dL_law_210 : decode cL_law 210 = .ok (.iadd, 1) := by decide +kernel
theorem dL_law_211 : decode cL_law 211 = .ok (.iaload, 1) := by decide +kernel
theorem dL_law_212 : decode cL_law 212 = .ok (.aload_n 0, 1) := by decide +kernel
theorem dL_law_213 : decode cL_law 213 = .ok (.iload_n 3, 1) := by decide +kernel
theorem dL_law_214 : decode cL_law 214 = .ok (.iconst 2, 1) := by decide +kernel
theorem dL_law_215 : decode cL_law 215 = .ok (.iadd, 1) := by decide +kernel
theorem dL_law_216 : decode cL_law 216 = .ok (.iaload, 1) := by decide +kernel
theorem dL_law_217 : decode cL_law 217 = .ok (.aload_n 0, 1) := by decide +kernel
theorem dL_law_218 : decode cL_law 218 = .ok (.iload_n 3, 1) := by decide +kernel
theorem dL_law_219 : decode cL_law 219 = .ok (.iconst 3, 1) := by decide +kernel
theorem dL_law_220 : decode cL_law 220 = .ok (.iadd, 1) := by decide +kernel
theorem dL_law_221 : decode cL_law 221 = .ok (.iaload, 1) := by decide +kernel
theorem dL_law_222 : decode cL_law 222 = .ok (.invokevirtual 23, 3) := by decide +kernel
theorem dL_law_225 : decode cL_law 225 = .ok (.aload_n 2, 1) := by decide +kernel
theorem dL_law_226 : decode cL_law 226 = .ok (.aload_n 0, 1) := by decide +kernel
theorem dL_law_227 : decode cL_law 227 = .ok (.iload_n 3, 1) := by decide +kernel
theorem dL_law_228 : decode cL_law 228 = .ok (.iconst 1, 1) := by decide +kernel
theorem dL_law_229 : decode cL_law 229 = .ok (.iadd, 1) := by decide +kernel
theorem dL_law_230 : decode cL_law 230 = .ok (.iaload, 1) := by decide +kernel
theorem dL_law_231 : decode cL_law 231 = .ok (.aload_n 0, 1) := by decide +kernel
theorem dL_law_232 : decode cL_law 232 = .ok (.iload_n 3, 1) := by decide +kernel
theorem dL_law_233 : decode cL_law 233 = .ok (.iconst 2, 1) := by decide +kernel
theorem dL_law_234 : decode cL_law 234 = .ok (.iadd, 1) := by decide +kernel
theorem dL_law_235 : decode cL_law 235 = .ok (.iaload, 1) := by decide +kernel
theorem dL_law_236 : decode cL_law 236 = .ok (.aload_n 0, 1) := by decide +kernel
theorem dL_law_237 : decode cL_law 237 = .ok (.iload_n 3, 1) := by decide +kernel
theorem dL_law_238 : decode cL_law 238 = .ok (.iconst 3, 1) := by decide +kernel
theorem dL_law_239 : decode cL_law 239 = .ok (.iadd, 1) := by decide +kernel
theorem dL_law_240 : decode cL_law 240 = .ok (.iaload, 1) := by decide +kernel
theorem dL_law_241 : decode cL_law 241 = .ok (.invokevirtual 26, 3) := by decide +kernel
theorem dL_law_244 : decode cL_law 244 = .ok (.if_icmp .eq 603, 3) := by decide +kernel
theorem dL_law_247 : decode cL_law 247 = .ok (.iconst 0, 1) := by decide +kernel
theorem dL_law_248 : decode cL_law 248 = .ok (.ireturn, 1) := by decide +kernel
theorem dL_law_249 : decode cL_law 249 = .ok (.aload_n 1, 1) := by decide +kernel
theorem dL_law_250 : decode cL_law 250 = .ok (.aload_n 0, 1) := by decide +kernel
theorem dL_law_251 : decode cL_law 251 = .ok (.iload_n 3, 1) := by decide +kernel
theorem dL_law_252 : decode cL_law 252 = .ok (.iconst 1, 1) := by decide +kernel
theorem dL_law_253 : decode cL_law 253 = .ok (.iadd, 1) := by decide +kernel
theorem dL_law_254 : decode cL_law 254 = .ok (.iaload, 1) := by decide +kernel
theorem dL_law_255 : decode cL_law 255 = .ok (.aload_n 0, 1) := by decide +kernel
theorem dL_law_256 : decode cL_law 256 = .ok (.iload_n 3, 1) := by decide +kernel
theorem dL_law_257 : decode cL_law 257 = .ok (.iconst 2, 1) := by decide +kernel
theorem dL_law_258 : decode cL_law 258 = .ok (.iadd, 1) := by decide +kernel
theorem dL_law_259 : decode cL_law 259 = .ok (.iaload, 1) := by decide +kernel
theorem dL_law_260 : decode cL_law 260 = .ok (.aload_n 0, 1) := by decide +kernel
theorem dL_law_261 : decode cL_law 261 = .ok (.iload_n 3, 1) := by decide +kernel
theorem dL_law_262 : decode cL_law 262 = .ok (.iconst 3, 1) := by decide +kernel
theorem dL_law_263 : decode cL_law 263 = .ok (.iadd, 1) := by decide +kernel
theorem dL_law_264 : decode cL_law 264 = .ok (.iaload, 1) := by decide +kernel
theorem dL_law_265 : decode cL_law 265 = .ok (.ifCond .eq 7, 3) := by decide +kernel
theorem dL_law_268 : decode cL_law 268 = .ok (.iconst 1, 1) := by decide +kernel
theorem dL_law_269 : decode cL_law 269 = .ok (.goto 4, 3) := by decide +kernel
theorem dL_law_272 : decode cL_law 272 = .ok (.iconst 0, 1) := by decide +kernel
theorem dL_law_273 : decode cL_law 273 = .ok (.invokevirtual 27, 3) := by decide +kernel
theorem dL_law_276 : decode cL_law 276 = .ok (.aload_n 2, 1) := by decide +kernel
theorem dL_law_277 : decode cL_law 277 = .ok (.aload_n 0, 1) := by decide +kernel
theorem dL_law_278 : decode cL_law 278 = .ok (.iload_n 3, 1) := by decide +kernel
theorem dL_law_279 : decode cL_law 279 = .ok (.iconst 1, 1) := by decide +kernel
theorem dL_law_280 : decode cL_law 280 = .ok (.iadd, 1) := by decide +kernel
theorem dL_law_281 : decode cL_law 281 = .ok (.iaload, 1) := by decide +kernel
theorem dL_law_282 : decode cL_law 282 = .ok (.aload_n 0, 1) := by decide +kernel
theorem dL_law_283 : decode cL_law 283 = .ok (.iload_n 3, 1) := by decide +kernel
theorem dL_law_284 : decode cL_law 284 = .ok (.iconst 2, 1) := by decide +kernel
theorem dL_law_285 : decode cL_law 285 = .ok (.iadd, 1) := by decide +kernel
theorem dL_law_286 : decode cL_law 286 = .ok (.iaload, 1) := by decide +kernel
theorem dL_law_287 : decode cL_law 287 = .ok (.aload_n 0, 1) := by decide +kernel
theorem dL_law_288 : decode cL_law 288 = .ok (.iload_n 3, 1) := by decide +kernel
theorem dL_law_289 : decode cL_law 289 = .ok (.iconst 3, 1) := by decide +kernel
theorem dL_law_290 : decode cL_law 290 = .ok (.iadd, 1) := by decide +kernel
theorem dL_law_291 : decode cL_law 291 = .ok (.iaload, 1) := by decide +kernel
theorem dL_law_292 : decode cL_law 292 = .ok (.ifCond .eq 7, 3) := by decide +kernel
theorem dL_law_295 : decode cL_law 295 = .ok (.iconst 1, 1) := by decide +kernel
theorem dL_law_296 : decode cL_law 296 = .ok (.goto 4, 3) := by decide +kernel
theorem dL_law_299 : decode cL_law 299 = .ok (.iconst 0, 1) := by decide +kernel
theorem dL_law_300 : decode cL_law 300 = .ok (.invokevirtual 31, 3) := by decide +kernel
theorem dL_law_303 : decode cL_law 303 = .ok (.if_icmp .eq 544, 3) := by decide +kernel
theorem dL_law_306 : decode cL_law 306 = .ok (.iconst 0, 1) := by decide +kernel
theorem dL_law_307 : decode cL_law 307 = .ok (.ireturn, 1) := by decide +kernel
theorem dL_law_308 : decode cL_law 308 = .ok (.aload_n 1, 1) := by decide +kernel
theorem dL_law_309 : decode cL_law 309 = .ok (.invokevirtual 32, 3) := by decide +kernel
theorem dL_law_312 : decode cL_law 312 = .ok (.aload_n 2, 1) := by decide +kernel
theorem dL_law_313 : decode cL_law 313 = .ok (.invokevirtual 36, 3) := by decide +kernel
theorem dL_law_316 : decode cL_law 316 = .ok (.if_icmp .eq 531, 3) := by decide +kernel
theorem dL_law_319 : decode cL_law 319 = .ok (.iconst 0, 1) := by decide +kernel
theorem dL_law_320 : decode cL_law 320 = .ok (.ireturn, 1) := by decide +kernel
theorem dL_law_321 : decode cL_law 321 = .ok (.aload_n 1, 1) := by decide +kernel
theorem dL_law_322 : decode cL_law 322 = .ok (.aload_n 0, 1) := by decide +kernel
theorem dL_law_323 : decode cL_law 323 = .ok (.iload_n 3, 1) := by decide +kernel
theorem dL_law_324 : decode cL_law 324 = .ok (.iconst 1, 1) := by decide +kernel
theorem dL_law_325 : decode cL_law 325 = .ok (.iadd, 1) := by decide +kernel
theorem dL_law_326 : decode cL_law 326 = .ok (.iaload, 1) := by decide +kernel
theorem dL_law_327 : decode cL_law 327 = .ok (.aload_n 0, 1) := by decide +kernel
theorem dL_law_328 : decode cL_law 328 = .ok (.iload_n 3, 1) := by decide +kernel
theorem dL_law_329 : decode cL_law 329 = .ok (.iconst 2, 1) := by decide +kernel
theorem dL_law_330 : decode cL_law 330 = .ok (.iadd, 1) := by decide +kernel
theorem dL_law_331 : decode cL_law 331 = .ok (.iaload, 1) := by decide +kernel
theorem dL_law_332 : decode cL_law 332 = .ok (.invokevirtual 37, 3) := by decide +kernel
theorem dL_law_335 : decode cL_law 335 = .ok (.aload_n 2, 1) := by decide +kernel
theorem dL_law_336 : decode cL_law 336 = .ok (.aload_n 0, 1) := by decide +kernel
theorem dL_law_337 : decode cL_law 337 = .ok (.iload_n 3, 1) := by decide +kernel
theorem dL_law_338 : decode cL_law 338 = .ok (.iconst 1, 1) := by decide +kernel
theorem dL_law_339 : decode cL_law 339 = .ok (.iadd, 1) := by decide +kernel
theorem dL_law_340 : decode cL_law 340 = .ok (.iaload, 1) := by decide +kernel
theorem dL_law_341 : decode cL_law 341 = .ok (.aload_n 0, 1) := by decide +kernel
theorem dL_law_342 : decode cL_law 342 = .ok (.iload_n 3, 1) := by decide +kernel
theorem dL_law_343 : decode cL_law 343 = .ok (.iconst 2, 1) := by decide +kernel
theorem dL_law_344 : decode cL_law 344 = .ok (.iadd, 1) := by decide +kernel
theorem dL_law_345 : decode cL_law 345 = .ok (.iaload, 1) := by decide +kernel
theorem dL_law_346 : decode cL_law 346 = .ok (.invokevirtual 41, 3) := by decide +kernel
theorem dL_law_349 : decode cL_law 349 = .ok (.if_icmp .eq 498, 3) := by decide +kernel
theorem dL_law_352 : decode cL_law 352 = .ok (.iconst 0, 1) := by decide +kernel
theorem dL_law_353 : decode cL_law 353 = .ok (.ireturn, 1) := by decide +kernel
theorem dL_law_354 : decode cL_law 354 = .ok (.aload_n 1, 1) := by decide +kernel
theorem dL_law_355 : decode cL_law 355 = .ok (.aload_n 0, 1) := by decide +kernel
theorem dL_law_356 : decode cL_law 356 = .ok (.iload_n 3, 1) := by decide +kernel
theorem dL_law_357 : decode cL_law 357 = .ok (.iconst 1, 1) := by decide +kernel
theorem dL_law_358 : decode cL_law 358 = .ok (.iadd, 1) := by decide +kernel
theorem dL_law_359 : decode cL_law 359 = .ok (.iaload, 1) := by decide +kernel
theorem dL_law_360 : decode cL_law 360 = .ok (.invokevirtual 42, 3) := by decide +kernel
theorem dL_law_363 : decode cL_law 363 = .ok (.aload_n 2, 1) := by decide +kernel
theorem dL_law_364 : decode cL_law 364 = .ok (.aload_n 0, 1) := by decide +kernel
theorem dL_law_365 : decode cL_law 365 = .ok (.iload_n 3, 1) := by decide +kernel
theorem dL_law_366 : decode cL_law 366 = .ok (.iconst 1, 1) := by decide +kernel
theorem dL_law_367 : decode cL_law 367 = .ok (.iadd, 1) := by decide +kernel
theorem dL_law_368 : decode cL_law 368 = .ok (.iaload, 1) := by decide +kernel
theorem dL_law_369 : decode cL_law 369 = .ok (.invokevirtual 45, 3) := by decide +kernel
theorem dL_law_372 : decode cL_law 372 = .ok (.if_icmp .eq 475, 3) := by decide +kernel
theorem dL_law_375 : decode cL_law 375 = .ok (.iconst 0, 1) := by decide +kernel
theorem dL_law_376 : decode cL_law 376 = .ok (.ireturn, 1) := by decide +kernel
theorem dL_law_377 : decode cL_law 377 = .ok (.aload_n 1, 1) := by decide +kernel
theorem dL_law_378 : decode cL_law 378 = .ok (.aload_n 0, 1) := by decide +kernel
theorem dL_law_379 : decode cL_law 379 = .ok (.iload_n 3, 1) := by decide +kernel
theorem dL_law_380 : decode cL_law 380 = .ok (.iconst 1, 1) := by decide +kernel
theorem dL_law_381 : decode cL_law 381 = .ok (.iadd, 1) := by decide +kernel
theorem dL_law_382 : decode cL_law 382 = .ok (.iaload, 1) := by decide +kernel
theorem dL_law_383 : decode cL_law 383 = .ok (.aload_n 0, 1) := by decide +kernel
theorem dL_law_384 : decode cL_law 384 = .ok (.iload_n 3, 1) := by decide +kernel
theorem dL_law_385 : decode cL_law 385 = .ok (.iconst 2, 1) := by decide +kernel
theorem dL_law_386 : decode cL_law 386 = .ok (.iadd, 1) := by decide +kernel
theorem dL_law_387 : decode cL_law 387 = .ok (.iaload, 1) := by decide +kernel
theorem dL_law_388 : decode cL_law 388 = .ok (.invokevirtual 46, 3) := by decide +kernel
theorem dL_law_391 : decode cL_law 391 = .ok (.aload_n 2, 1) := by decide +kernel
theorem dL_law_392 : decode cL_law 392 = .ok (.aload_n 0, 1) := by decide +kernel
theorem dL_law_393 : decode cL_law 393 = .ok (.iload_n 3, 1) := by decide +kernel
theorem dL_law_394 : decode cL_law 394 = .ok (.iconst 1, 1) := by decide +kernel
theorem dL_law_395 : decode cL_law 395 = .ok (.iadd, 1) := by decide +kernel
theorem dL_law_396 : decode cL_law 396 = .ok (.iaload, 1) := by decide +kernel
theorem dL_law_397 : decode cL_law 397 = .ok (.aload_n 0, 1) := by decide +kernel
theorem dL_law_398 : decode cL_law 398 = .ok (.iload_n 3, 1) := by decide +kernel
theorem dL_law_399 : decode cL_law 399 = .ok (.iconst 2, 1) := by decide +kernel
theorem dL_law_400 : decode cL_law 400 = .ok (.iadd, 1) := by decide +kernel
theorem dL_law_401 : decode cL_law 401 = .ok (.iaload, 1) := by decide +kernel
theorem dL_law_402 : decode cL_law 402 = .ok (.invokevirtual 49, 3) := by decide +kernel
theorem dL_law_405 : decode cL_law 405 = .ok (.if_icmp .eq 442, 3) := by decide +kernel
theorem dL_law_408 : decode cL_law 408 = .ok (.iconst 0, 1) := by decide +kernel
theorem dL_law_409 : decode cL_law 409 = .ok (.ireturn, 1) := by decide +kernel
theorem dL_law_410 : decode cL_law 410 = .ok (.aload_n 1, 1) := by decide +kernel
theorem dL_law_411 : decode cL_law 411 = .ok (.aload_n 0, 1) := by decide +kernel
theorem dL_law_412 : decode cL_law 412 = .ok (.iload_n 3, 1) := by decide +kernel
theorem dL_law_413 : decode cL_law 413 = .ok (.iconst 1, 1) := by decide +kernel
theorem dL_law_414 : decode cL_law 414 = .ok (.iadd, 1) := by decide +kernel
theorem dL_law_415 : decode cL_law 415 = .ok (.iaload, 1) := by decide +kernel
theorem dL_law_416 : decode cL_law 416 = .ok (.i2c, 1) := by decide +kernel
theorem dL_law_417 : decode cL_law 417 = .ok (.invokevirtual 50, 3) := by decide +kernel
theorem dL_law_420 : decode cL_law 420 = .ok (.aload_n 2, 1) := by decide +kernel
theorem dL_law_421 : decode cL_law 421 = .ok (.aload_n 0, 1) := by decide +kernel
theorem dL_law_422 : decode cL_law 422 = .ok (.iload_n 3, 1) := by decide +kernel
theorem dL_law_423 : decode cL_law 423 = .ok (.iconst 1, 1) := by decide +kernel
theorem dL_law_424 : decode cL_law 424 = .ok (.iadd, 1) := by decide +kernel
theorem dL_law_425 : decode cL_law 425 = .ok (.iaload, 1) := by decide +kernel
theorem dL_law_426 : decode cL_law 426 = .ok (.i2c, 1) := by decide +kernel
theorem dL_law_427 : decode cL_law 427 = .ok (.invokevirtual 54, 3) := by decide +kernel
theorem dL_law_430 : decode cL_law 430 = .ok (.if_icmp .eq 417, 3) := by decide +kernel
theorem dL_law_433 : decode cL_law 433 = .ok (.iconst 0, 1) := by decide +kernel
theorem dL_law_434 : decode cL_law 434 = .ok (.ireturn, 1) := by decide +kernel
theorem dL_law_435 : decode cL_law 435 = .ok (.aload_n 1, 1) := by decide +kernel
theorem dL_law_436 : decode cL_law 436 = .ok (.invokevirtual 55, 3) := by decide +kernel
theorem dL_law_439 : decode cL_law 439 = .ok (.aload_n 2, 1) := by decide +kernel
theorem dL_law_440 : decode cL_law 440 = .ok (.invokevirtual 58, 3) := by decide +kernel
theorem dL_law_443 : decode cL_law 443 = .ok (.if_icmp .eq 404, 3) := by decide +kernel
theorem dL_law_446 : decode cL_law 446 = .ok (.iconst 0, 1) := by decide +kernel
theorem dL_law_447 : decode cL_law 447 = .ok (.ireturn, 1) := by decide +kernel
theorem dL_law_448 : decode cL_law 448 = .ok (.aload_n 1, 1) := by decide +kernel
theorem dL_law_449 : decode cL_law 449 = .ok (.invokevirtual 59, 3) := by decide +kernel
theorem dL_law_452 : decode cL_law 452 = .ok (.aload_n 2, 1) := by decide +kernel
theorem dL_law_453 : decode cL_law 453 = .ok (.invokevirtual 62, 3) := by decide +kernel
theorem dL_law_456 : decode cL_law 456 = .ok (.if_icmp .eq 391, 3) := by decide +kernel
theorem dL_law_459 : decode cL_law 459 = .ok (.iconst 0, 1) := by decide +kernel
theorem dL_law_460 : decode cL_law 460 = .ok (.ireturn, 1) := by decide +kernel
theorem dL_law_461 : decode cL_law 461 = .ok (.aload_n 1, 1) := by decide +kernel
theorem dL_law_462 : decode cL_law 462 = .ok (.invokevirtual 63, 3) := by decide +kernel
theorem dL_law_465 : decode cL_law 465 = .ok (.aload_n 2, 1) := by decide +kernel
theorem dL_law_466 : decode cL_law 466 = .ok (.invokevirtual 66, 3) := by decide +kernel
theorem dL_law_469 : decode cL_law 469 = .ok (.if_icmp .eq 378, 3) := by decide +kernel
theorem dL_law_472 : decode cL_law 472 = .ok (.iconst 0, 1) := by decide +kernel
theorem dL_law_473 : decode cL_law 473 = .ok (.ireturn, 1) := by decide +kernel
theorem dL_law_474 : decode cL_law 474 = .ok (.aload_n 1, 1) := by decide +kernel
theorem dL_law_475 : decode cL_law 475 = .ok (.invokevirtual 67, 3) := by decide +kernel
theorem dL_law_478 : decode cL_law 478 = .ok (.aload_n 2, 1) := by decide +kernel
theorem dL_law_479 : decode cL_law 479 = .ok (.invokevirtual 70, 3) := by decide +kernel
theorem dL_law_482 : decode cL_law 482 = .ok (.if_icmp .eq 365, 3) := by decide +kernel
theorem dL_law_485 : decode cL_law 485 = .ok (.iconst 0, 1) := by decide +kernel
theorem dL_law_486 : decode cL_law 486 = .ok (.ireturn, 1) := by decide +kernel
theorem dL_law_487 : decode cL_law 487 = .ok (.aload_n 1, 1) := by decide +kernel
theorem dL_law_488 : decode cL_law 488 = .ok (.invokevirtual 71, 3) := by decide +kernel
theorem dL_law_491 : decode cL_law 491 = .ok (.aload_n 2, 1) := by decide +kernel
theorem dL_law_492 : decode cL_law 492 = .ok (.invokevirtual 74, 3) := by decide +kernel
theorem dL_law_495 : decode cL_law 495 = .ok (.if_icmp .eq 352, 3) := by decide +kernel
theorem dL_law_498 : decode cL_law 498 = .ok (.iconst 0, 1) := by decide +kernel
theorem dL_law_499 : decode cL_law 499 = .ok (.ireturn, 1) := by decide +kernel
theorem dL_law_500 : decode cL_law 500 = .ok (.aload_n 1, 1) := by decide +kernel
theorem dL_law_501 : decode cL_law 501 = .ok (.aload_n 0, 1) := by decide +kernel
theorem dL_law_502 : decode cL_law 502 = .ok (.iload_n 3, 1) := by decide +kernel
theorem dL_law_503 : decode cL_law 503 = .ok (.iconst 1, 1) := by decide +kernel
theorem dL_law_504 : decode cL_law 504 = .ok (.iadd, 1) := by decide +kernel
theorem dL_law_505 : decode cL_law 505 = .ok (.iaload, 1) := by decide +kernel
theorem dL_law_506 : decode cL_law 506 = .ok (.aload_n 0, 1) := by decide +kernel
theorem dL_law_507 : decode cL_law 507 = .ok (.iload_n 3, 1) := by decide +kernel
theorem dL_law_508 : decode cL_law 508 = .ok (.iconst 2, 1) := by decide +kernel
theorem dL_law_509 : decode cL_law 509 = .ok (.iadd, 1) := by decide +kernel
theorem dL_law_510 : decode cL_law 510 = .ok (.iaload, 1) := by decide +kernel
