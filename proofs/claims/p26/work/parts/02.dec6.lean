theorem dL_act_691 : decode cL_act 691 = .ok (.invokevirtual 20, 3) := by decide +kernel
theorem dL_act_694 : decode cL_act 694 = .ok (.istore 10, 2) := by decide +kernel
theorem dL_act_696 : decode cL_act 696 = .ok (.aload_n 0, 1) := by decide +kernel
theorem dL_act_697 : decode cL_act 697 = .ok (.iload 5, 2) := by decide +kernel
theorem dL_act_699 : decode cL_act 699 = .ok (.invokevirtual 61, 3) := by decide +kernel
theorem dL_act_702 : decode cL_act 702 = .ok (.istore 11, 2) := by decide +kernel
theorem dL_act_704 : decode cL_act 704 = .ok (.iload 9, 2) := by decide +kernel
theorem dL_act_706 : decode cL_act 706 = .ok (.bipush (-5), 2) := by decide +kernel
theorem dL_act_708 : decode cL_act 708 = .ok (.if_icmp .eq 10, 3) := by decide +kernel
theorem dL_act_711 : decode cL_act 711 = .ok (.iload 9, 2) := by decide +kernel
theorem dL_act_713 : decode cL_act 713 = .ok (.iload 10, 2) := by decide +kernel
theorem dL_act_715 : decode cL_act 715 = .ok (.if_icmp .ne 42, 3) := by decide +kernel
theorem dL_act_718 : decode cL_act 718 = .ok (.iload 11, 2) := by decide +kernel
theorem dL_act_720 : decode cL_act 720 = .ok (.iload 9, 2) := by decide +kernel
theorem dL_act_722 : decode cL_act 722 = .ok (.bipush (-5), 2) := by decide +kernel
theorem dL_act_724 : decode cL_act 724 = .ok (.if_icmp .ne 8, 3) := by decide +kernel
theorem dL_act_727 : decode cL_act 727 = .ok (.bipush (-4), 2) := by decide +kernel
theorem dL_act_729 : decode cL_act 729 = .ok (.goto 5, 3) := by decide +kernel
theorem dL_act_732 : decode cL_act 732 = .ok (.bipush (-5), 2) := by decide +kernel
theorem dL_act_734 : decode cL_act 734 = .ok (.if_icmp .ne 20, 3) := by decide +kernel
theorem dL_act_737 : decode cL_act 737 = .ok (.aload_n 0, 1) := by decide +kernel
theorem dL_act_738 : decode cL_act 738 = .ok (.iload 5, 2) := by decide +kernel
theorem dL_act_740 : decode cL_act 740 = .ok (.iconst 4, 1) := by decide +kernel
theorem dL_act_741 : decode cL_act 741 = .ok (.invokevirtual 20, 3) := by decide +kernel
theorem dL_act_744 : decode cL_act 744 = .ok (.iload 10, 2) := by decide +kernel
theorem dL_act_746 : decode cL_act 746 = .ok (.if_icmp .ne 8, 3) := by decide +kernel
theorem dL_act_749 : decode cL_act 749 = .ok (.iload 11, 2) := by decide +kernel
theorem dL_act_751 : decode cL_act 751 = .ok (.goto 5, 3) := by decide +kernel
theorem dL_act_754 : decode cL_act 754 = .ok (.bipush (-9), 2) := by decide +kernel
theorem dL_act_756 : decode cL_act 756 = .ok (.ireturn, 1) := by decide +kernel
theorem dL_act_757 : decode cL_act 757 = .ok (.iload 11, 2) := by decide +kernel
theorem dL_act_759 : decode cL_act 759 = .ok (.iload 9, 2) := by decide +kernel
theorem dL_act_761 : decode cL_act 761 = .ok (.if_icmp .ne 21, 3) := by decide +kernel
theorem dL_act_764 : decode cL_act 764 = .ok (.aload_n 0, 1) := by decide +kernel
theorem dL_act_765 : decode cL_act 765 = .ok (.iload 5, 2) := by decide +kernel
theorem dL_act_767 : decode cL_act 767 = .ok (.iconst 4, 1) := by decide +kernel
theorem dL_act_768 : decode cL_act 768 = .ok (.invokevirtual 20, 3) := by decide +kernel
theorem dL_act_771 : decode cL_act 771 = .ok (.iload 9, 2) := by decide +kernel
theorem dL_act_773 : decode cL_act 773 = .ok (.if_icmp .ne 9, 3) := by decide +kernel
theorem dL_act_776 : decode cL_act 776 = .ok (.sipush 1000, 3) := by decide +kernel
theorem dL_act_779 : decode cL_act 779 = .ok (.goto 5, 3) := by decide +kernel
theorem dL_act_782 : decode cL_act 782 = .ok (.bipush (-9), 2) := by decide +kernel
theorem dL_act_784 : decode cL_act 784 = .ok (.ireturn, 1) := by decide +kernel
theorem dL_act_785 : decode cL_act 785 = .ok (.iload_n 3, 1) := by decide +kernel
theorem dL_act_786 : decode cL_act 786 = .ok (.bipush 6, 2) := by decide +kernel
theorem dL_act_788 : decode cL_act 788 = .ok (.irem, 1) := by decide +kernel
theorem dL_act_789 : decode cL_act 789 = .ok (.istore 9, 2) := by decide +kernel
theorem dL_act_791 : decode cL_act 791 = .ok (.iload_n 3, 1) := by decide +kernel
theorem dL_act_792 : decode cL_act 792 = .ok (.bipush 6, 2) := by decide +kernel
theorem dL_act_794 : decode cL_act 794 = .ok (.idiv, 1) := by decide +kernel
theorem dL_act_795 : decode cL_act 795 = .ok (.istore 10, 2) := by decide +kernel
theorem dL_act_797 : decode cL_act 797 = .ok (.iload 9, 2) := by decide +kernel
theorem dL_act_799 : decode cL_act 799 = .ok (.ifCond .ne 14, 3) := by decide +kernel
theorem dL_act_802 : decode cL_act 802 = .ok (.bipush 10, 2) := by decide +kernel
theorem dL_act_804 : decode cL_act 804 = .ok (.iload 10, 2) := by decide +kernel
theorem dL_act_806 : decode cL_act 806 = .ok (.bipush 81, 2) := by decide +kernel
theorem dL_act_808 : decode cL_act 808 = .ok (.irem, 1) := by decide +kernel
theorem dL_act_809 : decode cL_act 809 = .ok (.iadd, 1) := by decide +kernel
theorem dL_act_810 : decode cL_act 810 = .ok (.goto 68, 3) := by decide +kernel
theorem dL_act_813 : decode cL_act 813 = .ok (.iload 9, 2) := by decide +kernel
theorem dL_act_815 : decode cL_act 815 = .ok (.iconst 1, 1) := by decide +kernel
theorem dL_act_816 : decode cL_act 816 = .ok (.if_icmp .ne 11, 3) := by decide +kernel
theorem dL_act_819 : decode cL_act 819 = .ok (.iload 10, 2) := by decide +kernel
theorem dL_act_821 : decode cL_act 821 = .ok (.bipush 101, 2) := by decide +kernel
theorem dL_act_823 : decode cL_act 823 = .ok (.irem, 1) := by decide +kernel
theorem dL_act_824 : decode cL_act 824 = .ok (.goto 54, 3) := by decide +kernel
theorem dL_act_827 : decode cL_act 827 = .ok (.iload 9, 2) := by decide +kernel
theorem dL_act_829 : decode cL_act 829 = .ok (.iconst 2, 1) := by decide +kernel
theorem dL_act_830 : decode cL_act 830 = .ok (.if_icmp .ne 11, 3) := by decide +kernel
theorem dL_act_833 : decode cL_act 833 = .ok (.iload 10, 2) := by decide +kernel
theorem dL_act_835 : decode cL_act 835 = .ok (.bipush 96, 2) := by decide +kernel
theorem dL_act_837 : decode cL_act 837 = .ok (.irem, 1) := by decide +kernel
theorem dL_act_838 : decode cL_act 838 = .ok (.goto 40, 3) := by decide +kernel
theorem dL_act_841 : decode cL_act 841 = .ok (.iload 9, 2) := by decide +kernel
theorem dL_act_843 : decode cL_act 843 = .ok (.iconst 3, 1) := by decide +kernel
theorem dL_act_844 : decode cL_act 844 = .ok (.if_icmp .ne 13, 3) := by decide +kernel
theorem dL_act_847 : decode cL_act 847 = .ok (.iconst 1, 1) := by decide +kernel
theorem dL_act_848 : decode cL_act 848 = .ok (.iload 10, 2) := by decide +kernel
theorem dL_act_850 : decode cL_act 850 = .ok (.bipush 9, 2) := by decide +kernel
theorem dL_act_852 : decode cL_act 852 = .ok (.irem, 1) := by decide +kernel
theorem dL_act_853 : decode cL_act 853 = .ok (.iadd, 1) := by decide +kernel
theorem dL_act_854 : decode cL_act 854 = .ok (.goto 24, 3) := by decide +kernel
theorem dL_act_857 : decode cL_act 857 = .ok (.iload 9, 2) := by decide +kernel
theorem dL_act_859 : decode cL_act 859 = .ok (.iconst 4, 1) := by decide +kernel
theorem dL_act_860 : decode cL_act 860 = .ok (.if_icmp .ne 11, 3) := by decide +kernel
theorem dL_act_863 : decode cL_act 863 = .ok (.iload 10, 2) := by decide +kernel
theorem dL_act_865 : decode cL_act 865 = .ok (.bipush 21, 2) := by decide +kernel
theorem dL_act_867 : decode cL_act 867 = .ok (.irem, 1) := by decide +kernel
theorem dL_act_868 : decode cL_act 868 = .ok (.goto 10, 3) := by decide +kernel
theorem dL_act_871 : decode cL_act 871 = .ok (.iconst 4, 1) := by decide +kernel
theorem dL_act_872 : decode cL_act 872 = .ok (.iload 10, 2) := by decide +kernel
theorem dL_act_874 : decode cL_act 874 = .ok (.bipush 37, 2) := by decide +kernel
theorem dL_act_876 : decode cL_act 876 = .ok (.irem, 1) := by decide +kernel
theorem dL_act_877 : decode cL_act 877 = .ok (.iadd, 1) := by decide +kernel
theorem dL_act_878 : decode cL_act 878 = .ok (.istore 11, 2) := by decide +kernel
theorem dL_act_880 : decode cL_act 880 = .ok (.aload_n 0, 1) := by decide +kernel
theorem dL_act_881 : decode cL_act 881 = .ok (.bipush 6, 2) := by decide +kernel
theorem dL_act_883 : decode cL_act 883 = .ok (.iload 9, 2) := by decide +kernel
theorem dL_act_885 : decode cL_act 885 = .ok (.iadd, 1) := by decide +kernel
theorem dL_act_886 : decode cL_act 886 = .ok (.invokevirtual 14, 3) := by decide +kernel
theorem dL_act_889 : decode cL_act 889 = .ok (.istore 12, 2) := by decide +kernel
theorem dL_act_891 : decode cL_act 891 = .ok (.aload_n 0, 1) := by decide +kernel
theorem dL_act_892 : decode cL_act 892 = .ok (.iload 9, 2) := by decide +kernel
theorem dL_act_894 : decode cL_act 894 = .ok (.iload 11, 2) := by decide +kernel
theorem dL_act_896 : decode cL_act 896 = .ok (.invokevirtual 64, 3) := by decide +kernel
theorem dL_act_899 : decode cL_act 899 = .ok (.istore 13, 2) := by decide +kernel
theorem dL_act_901 : decode cL_act 901 = .ok (.iload 13, 2) := by decide +kernel
theorem dL_act_903 : decode cL_act 903 = .ok (.iload 12, 2) := by decide +kernel
theorem dL_act_905 : decode cL_act 905 = .ok (.iload 11, 2) := by decide +kernel
theorem dL_act_907 : decode cL_act 907 = .ok (.if_icmp .ne 8, 3) := by decide +kernel
theorem dL_act_910 : decode cL_act 910 = .ok (.bipush (-5), 2) := by decide +kernel
theorem dL_act_912 : decode cL_act 912 = .ok (.goto 5, 3) := by decide +kernel
theorem dL_act_915 : decode cL_act 915 = .ok (.iload 12, 2) := by decide +kernel
theorem dL_act_917 : decode cL_act 917 = .ok (.if_icmp .ne 22, 3) := by decide +kernel
theorem dL_act_920 : decode cL_act 920 = .ok (.aload_n 0, 1) := by decide +kernel
theorem dL_act_921 : decode cL_act 921 = .ok (.bipush 6, 2) := by decide +kernel
theorem dL_act_923 : decode cL_act 923 = .ok (.iload 9, 2) := by decide +kernel
theorem dL_act_925 : decode cL_act 925 = .ok (.iadd, 1) := by decide +kernel
theorem dL_act_926 : decode cL_act 926 = .ok (.invokevirtual 14, 3) := by decide +kernel
theorem dL_act_929 : decode cL_act 929 = .ok (.iload 11, 2) := by decide +kernel
theorem dL_act_931 : decode cL_act 931 = .ok (.if_icmp .ne 8, 3) := by decide +kernel
theorem dL_act_934 : decode cL_act 934 = .ok (.iload 13, 2) := by decide +kernel
theorem dL_act_936 : decode cL_act 936 = .ok (.goto 5, 3) := by decide +kernel
theorem dL_act_939 : decode cL_act 939 = .ok (.bipush (-9), 2) := by decide +kernel
theorem dL_act_941 : decode cL_act 941 = .ok (.ireturn, 1) := by decide +kernel
theorem dL_law_0 : decode cL_law 0 = .ok (.new 15, 3) := by decide +kernel
theorem dL_law_3 : decode cL_law 3 = .ok (.dup, 1) := by decide +kernel
theorem dL_law_4 : decode cL_law 4 = .ok (.invokespecial 94, 3) := by decide +kernel
theorem dL_law_7 : decode cL_law 7 = .ok (.astore_n 1, 1) := by decide +kernel
theorem dL_law_8 : decode cL_law 8 = .ok (.aload_n 1, 1) := by decide +kernel
theorem dL_law_9 : decode cL_law 9 = .ok (.invokevirtual 95, 3) := by decide +kernel
theorem dL_law_12 : decode cL_law 12 = .ok (.bipush (-5), 2) := by decide +kernel
theorem dL_law_14 : decode cL_law 14 = .ok (.if_icmp .ne 103, 3) := by decide +kernel
theorem dL_law_17 : decode cL_law 17 = .ok (.aload_n 1, 1) := by decide +kernel
theorem dL_law_18 : decode cL_law 18 = .ok (.invokevirtual 98, 3) := by decide +kernel
theorem dL_law_21 : decode cL_law 21 = .ok (.bipush (-5), 2) := by decide +kernel
theorem dL_law_23 : decode cL_law 23 = .ok (.if_icmp .ne 94, 3) := by decide +kernel
theorem dL_law_26 : decode cL_law 26 = .ok (.aload_n 1, 1) := by decide +kernel
theorem dL_law_27 : decode cL_law 27 = .ok (.bipush 6, 2) := by decide +kernel
theorem dL_law_29 : decode cL_law 29 = .ok (.invokevirtual 14, 3) := by decide +kernel
theorem dL_law_32 : decode cL_law 32 = .ok (.bipush 40, 2) := by decide +kernel
theorem dL_law_34 : decode cL_law 34 = .ok (.if_icmp .ne 83, 3) := by decide +kernel
theorem dL_law_37 : decode cL_law 37 = .ok (.aload_n 1, 1) := by decide +kernel
theorem dL_law_38 : decode cL_law 38 = .ok (.bipush 7, 2) := by decide +kernel
theorem dL_law_40 : decode cL_law 40 = .ok (.invokevirtual 14, 3) := by decide +kernel
theorem dL_law_43 : decode cL_law 43 = .ok (.bipush 40, 2) := by decide +kernel
theorem dL_law_45 : decode cL_law 45 = .ok (.if_icmp .ne 72, 3) := by decide +kernel
theorem dL_law_48 : decode cL_law 48 = .ok (.aload_n 1, 1) := by decide +kernel
theorem dL_law_49 : decode cL_law 49 = .ok (.bipush 8, 2) := by decide +kernel
theorem dL_law_51 : decode cL_law 51 = .ok (.invokevirtual 14, 3) := by decide +kernel
theorem dL_law_54 : decode cL_law 54 = .ok (.bipush 60, 2) := by decide +kernel
theorem dL_law_56 : decode cL_law 56 = .ok (.if_icmp .ne 61, 3) := by decide +kernel
theorem dL_law_59 : decode cL_law 59 = .ok (.aload_n 1, 1) := by decide +kernel
theorem dL_law_60 : decode cL_law 60 = .ok (.bipush 9, 2) := by decide +kernel
theorem dL_law_62 : decode cL_law 62 = .ok (.invokevirtual 14, 3) := by decide +kernel
theorem dL_law_65 : decode cL_law 65 = .ok (.iconst 4, 1) := by decide +kernel
theorem dL_law_66 : decode cL_law 66 = .ok (.if_icmp .ne 51, 3) := by decide +kernel
theorem dL_law_69 : decode cL_law 69 = .ok (.aload_n 1, 1) := by decide +kernel
theorem dL_law_70 : decode cL_law 70 = .ok (.bipush 10, 2) := by decide +kernel
theorem dL_law_72 : decode cL_law 72 = .ok (.invokevirtual 14, 3) := by decide +kernel
theorem dL_law_75 : decode cL_law 75 = .ok (.iconst 3, 1) := by decide +kernel
theorem dL_law_76 : decode cL_law 76 = .ok (.if_icmp .ne 41, 3) := by decide +kernel
theorem dL_law_79 : decode cL_law 79 = .ok (.aload_n 1, 1) := by decide +kernel
theorem dL_law_80 : decode cL_law 80 = .ok (.bipush 11, 2) := by decide +kernel
theorem dL_law_82 : decode cL_law 82 = .ok (.invokevirtual 14, 3) := by decide +kernel
theorem dL_law_85 : decode cL_law 85 = .ok (.bipush 12, 2) := by decide +kernel
theorem dL_law_87 : decode cL_law 87 = .ok (.if_icmp .ne 30, 3) := by decide +kernel
theorem dL_law_90 : decode cL_law 90 = .ok (.aload_n 1, 1) := by decide +kernel
theorem dL_law_91 : decode cL_law 91 = .ok (.iconst 0, 1) := by decide +kernel
theorem dL_law_92 : decode cL_law 92 = .ok (.invokestatic 101, 3) := by decide +kernel
theorem dL_law_95 : decode cL_law 95 = .ok (.ifCond .eq 22, 3) := by decide +kernel
theorem dL_law_98 : decode cL_law 98 = .ok (.aload_n 1, 1) := by decide +kernel
theorem dL_law_99 : decode cL_law 99 = .ok (.iconst 1, 1) := by decide +kernel
theorem dL_law_100 : decode cL_law 100 = .ok (.invokestatic 101, 3) := by decide +kernel
theorem dL_law_103 : decode cL_law 103 = .ok (.ifCond .eq 14, 3) := by decide +kernel
theorem dL_law_106 : decode cL_law 106 = .ok (.aload_n 1, 1) := by decide +kernel
theorem dL_law_107 : decode cL_law 107 = .ok (.invokevirtual 104, 3) := by decide +kernel
theorem dL_law_110 : decode cL_law 110 = .ok (.ifCond .ne 7, 3) := by decide +kernel
theorem dL_law_113 : decode cL_law 113 = .ok (.iconst 1, 1) := by decide +kernel
theorem dL_law_114 : decode cL_law 114 = .ok (.goto 4, 3) := by decide +kernel
theorem dL_law_117 : decode cL_law 117 = .ok (.iconst 0, 1) := by decide +kernel
theorem dL_law_118 : decode cL_law 118 = .ok (.istore_n 2, 1) := by decide +kernel
theorem dL_law_119 : decode cL_law 119 = .ok (.aload_n 1, 1) := by decide +kernel
theorem dL_law_120 : decode cL_law 120 = .ok (.invokestatic 86, 3) := by decide +kernel
theorem dL_law_123 : decode cL_law 123 = .ok (.lstore_n 3, 1) := by decide +kernel
theorem dL_law_124 : decode cL_law 124 = .ok (.iconst 0, 1) := by decide +kernel
theorem dL_law_125 : decode cL_law 125 = .ok (.istore 5, 2) := by decide +kernel
theorem dL_law_127 : decode cL_law 127 = .ok (.iconst 0, 1) := by decide +kernel
theorem dL_law_128 : decode cL_law 128 = .ok (.istore 6, 2) := by decide +kernel
theorem dL_law_130 : decode cL_law 130 = .ok (.iload 6, 2) := by decide +kernel
theorem dL_law_132 : decode cL_law 132 = .ok (.bipush 60, 2) := by decide +kernel
theorem dL_law_134 : decode cL_law 134 = .ok (.if_icmp .ge 313, 3) := by decide +kernel
theorem dL_law_137 : decode cL_law 137 = .ok (.iload_n 2, 1) := by decide +kernel
theorem dL_law_138 : decode cL_law 138 = .ok (.ifCond .eq 309, 3) := by decide +kernel
theorem dL_law_141 : decode cL_law 141 = .ok (.aload_n 0, 1) := by decide +kernel
theorem dL_law_142 : decode cL_law 142 = .ok (.iload 6, 2) := by decide +kernel
theorem dL_law_144 : decode cL_law 144 = .ok (.invokestatic 107, 3) := by decide +kernel
theorem dL_law_147 : decode cL_law 147 = .ok (.istore 7, 2) := by decide +kernel
theorem dL_law_149 : decode cL_law 149 = .ok (.aload_n 1, 1) := by decide +kernel
theorem dL_law_150 : decode cL_law 150 = .ok (.invokestatic 86, 3) := by decide +kernel
theorem dL_law_153 : decode cL_law 153 = .ok (.lstore 8, 2) := by decide +kernel
theorem dL_law_155 : decode cL_law 155 = .ok (.aload_n 1, 1) := by decide +kernel
theorem dL_law_156 : decode cL_law 156 = .ok (.iconst 4, 1) := by decide +kernel
theorem dL_law_157 : decode cL_law 157 = .ok (.invokevirtual 14, 3) := by decide +kernel
theorem dL_law_160 : decode cL_law 160 = .ok (.istore 10, 2) := by decide +kernel
theorem dL_law_162 : decode cL_law 162 = .ok (.aload_n 1, 1) := by decide +kernel
theorem dL_law_163 : decode cL_law 163 = .ok (.iload 7, 2) := by decide +kernel
theorem dL_law_165 : decode cL_law 165 = .ok (.invokestatic 111, 3) := by decide +kernel
theorem dL_law_168 : decode cL_law 168 = .ok (.istore 11, 2) := by decide +kernel
theorem dL_law_170 : decode cL_law 170 = .ok (.aload_n 1, 1) := by decide +kernel
theorem dL_law_171 : decode cL_law 171 = .ok (.iconst 4, 1) := by decide +kernel
theorem dL_law_172 : decode cL_law 172 = .ok (.invokevirtual 14, 3) := by decide +kernel
theorem dL_law_175 : decode cL_law 175 = .ok (.istore 12, 2) := by decide +kernel
theorem dL_law_177 : decode cL_law 177 = .ok (.iload 11, 2) := by decide +kernel
theorem dL_law_179 : decode cL_law 179 = .ok (.bipush (-9), 2) := by decide +kernel
theorem dL_law_181 : decode cL_law 181 = .ok (.if_icmp .le 115, 3) := by decide +kernel
theorem dL_law_184 : decode cL_law 184 = .ok (.iload 11, 2) := by decide +kernel
theorem dL_law_186 : decode cL_law 186 = .ok (.ifCond .ge 23, 3) := by decide +kernel
theorem dL_law_189 : decode cL_law 189 = .ok (.iload 12, 2) := by decide +kernel
theorem dL_law_191 : decode cL_law 191 = .ok (.iload 10, 2) := by decide +kernel
theorem dL_law_193 : decode cL_law 193 = .ok (.if_icmp .ne 103, 3) := by decide +kernel
theorem dL_law_196 : decode cL_law 196 = .ok (.aload_n 1, 1) := by decide +kernel
theorem dL_law_197 : decode cL_law 197 = .ok (.invokestatic 86, 3) := by decide +kernel
theorem dL_law_200 : decode cL_law 200 = .ok (.lload 8, 2) := by decide +kernel
theorem dL_law_202 : decode cL_law 202 = .ok (.lcmp, 1) := by decide +kernel
theorem dL_law_203 : decode cL_law 203 = .ok (.ifCond .ne 93, 3) := by decide +kernel
theorem dL_law_206 : decode cL_law 206 = .ok (.goto 22, 3) := by decide +kernel
theorem dL_law_209 : decode cL_law 209 = .ok (.iload 12, 2) := by decide +kernel
theorem dL_law_211 : decode cL_law 211 = .ok (.iload 10, 2) := by decide +kernel
theorem dL_law_213 : decode cL_law 213 = .ok (.iconst 4, 1) := by decide +kernel
theorem dL_law_214 : decode cL_law 214 = .ok (.if_icmp .ge 10, 3) := by decide +kernel
theorem dL_law_217 : decode cL_law 217 = .ok (.iload 10, 2) := by decide +kernel
theorem dL_law_219 : decode cL_law 219 = .ok (.iconst 1, 1) := by decide +kernel
theorem dL_law_220 : decode cL_law 220 = .ok (.iadd, 1) := by decide +kernel
theorem dL_law_221 : decode cL_law 221 = .ok (.goto 4, 3) := by decide +kernel
theorem dL_law_224 : decode cL_law 224 = .ok (.iconst 4, 1) := by decide +kernel
theorem dL_law_225 : decode cL_law 225 = .ok (.if_icmp .ne 71, 3) := by decide +kernel
theorem dL_law_228 : decode cL_law 228 = .ok (.aload_n 1, 1) := by decide +kernel
theorem dL_law_229 : decode cL_law 229 = .ok (.invokestatic 115, 3) := by decide +kernel
theorem dL_law_232 : decode cL_law 232 = .ok (.ifCond .eq 64, 3) := by decide +kernel
theorem dL_law_235 : decode cL_law 235 = .ok (.aload_n 1, 1) := by decide +kernel
theorem dL_law_236 : decode cL_law 236 = .ok (.iload 7, 2) := by decide +kernel
theorem dL_law_238 : decode cL_law 238 = .ok (.iconst 5, 1) := by decide +kernel
theorem dL_law_239 : decode cL_law 239 = .ok (.idiv, 1) := by decide +kernel
theorem dL_law_240 : decode cL_law 240 = .ok (.aload_n 1, 1) := by decide +kernel
theorem dL_law_241 : decode cL_law 241 = .ok (.iconst 0, 1) := by decide +kernel
theorem dL_law_242 : decode cL_law 242 = .ok (.invokevirtual 14, 3) := by decide +kernel
theorem dL_law_245 : decode cL_law 245 = .ok (.irem, 1) := by decide +kernel
theorem dL_law_246 : decode cL_law 246 = .ok (.iconst 1, 1) := by decide +kernel
theorem dL_law_247 : decode cL_law 247 = .ok (.iload 7, 2) := by decide +kernel
theorem dL_law_249 : decode cL_law 249 = .ok (.bipush 30, 2) := by decide +kernel
theorem dL_law_251 : decode cL_law 251 = .ok (.idiv, 1) := by decide +kernel
theorem dL_law_252 : decode cL_law 252 = .ok (.bipush 9, 2) := by decide +kernel
theorem dL_law_254 : decode cL_law 254 = .ok (.irem, 1) := by decide +kernel
theorem dL_law_255 : decode cL_law 255 = .ok (.iadd, 1) := by decide +kernel
theorem dL_law_256 : decode cL_law 256 = .ok (.iload 7, 2) := by decide +kernel
theorem dL_law_258 : decode cL_law 258 = .ok (.bipush 7, 2) := by decide +kernel
theorem dL_law_260 : decode cL_law 260 = .ok (.idiv, 1) := by decide +kernel
theorem dL_law_261 : decode cL_law 261 = .ok (.bipush 120, 2) := by decide +kernel
theorem dL_law_263 : decode cL_law 263 = .ok (.irem, 1) := by decide +kernel
theorem dL_law_264 : decode cL_law 264 = .ok (.invokestatic 119, 3) := by decide +kernel
theorem dL_law_267 : decode cL_law 267 = .ok (.ifCond .eq 29, 3) := by decide +kernel
theorem dL_law_270 : decode cL_law 270 = .ok (.iload 6, 2) := by decide +kernel
theorem dL_law_272 : decode cL_law 272 = .ok (.bipush 8, 2) := by decide +kernel
theorem dL_law_274 : decode cL_law 274 = .ok (.irem, 1) := by decide +kernel
theorem dL_law_275 : decode cL_law 275 = .ok (.bipush 7, 2) := by decide +kernel
theorem dL_law_277 : decode cL_law 277 = .ok (.if_icmp .ne 15, 3) := by decide +kernel
theorem dL_law_280 : decode cL_law 280 = .ok (.aload_n 1, 1) := by decide +kernel
theorem dL_law_281 : decode cL_law 281 = .ok (.iload 7, 2) := by decide +kernel
theorem dL_law_283 : decode cL_law 283 = .ok (.bipush 7, 2) := by decide +kernel
theorem dL_law_285 : decode cL_law 285 = .ok (.idiv, 1) := by decide +kernel
theorem dL_law_286 : decode cL_law 286 = .ok (.invokestatic 101, 3) := by decide +kernel
theorem dL_law_289 : decode cL_law 289 = .ok (.ifCond .eq 7, 3) := by decide +kernel
theorem dL_law_292 : decode cL_law 292 = .ok (.iconst 1, 1) := by decide +kernel
theorem dL_law_293 : decode cL_law 293 = .ok (.goto 4, 3) := by decide +kernel
theorem dL_law_296 : decode cL_law 296 = .ok (.iconst 0, 1) := by decide +kernel
theorem dL_law_297 : decode cL_law 297 = .ok (.istore_n 2, 1) := by decide +kernel
theorem dL_law_298 : decode cL_law 298 = .ok (.iload_n 2, 1) := by decide +kernel
theorem dL_law_299 : decode cL_law 299 = .ok (.ifCond .eq 58, 3) := by decide +kernel
theorem dL_law_302 : decode cL_law 302 = .ok (.iload 11, 2) := by decide +kernel
theorem dL_law_304 : decode cL_law 304 = .ok (.ifCond .lt 53, 3) := by decide +kernel
theorem dL_law_307 : decode cL_law 307 = .ok (.iload 6, 2) := by decide +kernel
theorem dL_law_309 : decode cL_law 309 = .ok (.ifCond .le 48, 3) := by decide +kernel
theorem dL_law_312 : decode cL_law 312 = .ok (.iload 7, 2) := by decide +kernel
theorem dL_law_314 : decode cL_law 314 = .ok (.bipush 17, 2) := by decide +kernel
theorem dL_law_316 : decode cL_law 316 = .ok (.idiv, 1) := by decide +kernel
theorem dL_law_317 : decode cL_law 317 = .ok (.iconst 4, 1) := by decide +kernel
theorem dL_law_318 : decode cL_law 318 = .ok (.irem, 1) := by decide +kernel
theorem dL_law_319 : decode cL_law 319 = .ok (.ifCond .ne 38, 3) := by decide +kernel
theorem dL_law_322 : decode cL_law 322 = .ok (.aload_n 1, 1) := by decide +kernel
theorem dL_law_323 : decode cL_law 323 = .ok (.invokevirtual 95, 3) := by decide +kernel
theorem dL_law_326 : decode cL_law 326 = .ok (.iload 10, 2) := by decide +kernel
theorem dL_law_328 : decode cL_law 328 = .ok (.iconst 4, 1) := by decide +kernel
theorem dL_law_329 : decode cL_law 329 = .ok (.if_icmp .ge 8, 3) := by decide +kernel
theorem dL_law_332 : decode cL_law 332 = .ok (.iload 10, 2) := by decide +kernel
theorem dL_law_334 : decode cL_law 334 = .ok (.goto 4, 3) := by decide +kernel
theorem dL_law_337 : decode cL_law 337 = .ok (.iconst 3, 1) := by decide +kernel
theorem dL_law_338 : decode cL_law 338 = .ok (.if_icmp .ne 17, 3) := by decide +kernel
theorem dL_law_341 : decode cL_law 341 = .ok (.aload_n 1, 1) := by decide +kernel
theorem dL_law_342 : decode cL_law 342 = .ok (.invokestatic 86, 3) := by decide +kernel
theorem dL_law_345 : decode cL_law 345 = .ok (.lload 8, 2) := by decide +kernel
theorem dL_law_347 : decode cL_law 347 = .ok (.lcmp, 1) := by decide +kernel
theorem dL_law_348 : decode cL_law 348 = .ok (.ifCond .ne 7, 3) := by decide +kernel
theorem dL_law_351 : decode cL_law 351 = .ok (.iconst 1, 1) := by decide +kernel
theorem dL_law_352 : decode cL_law 352 = .ok (.goto 4, 3) := by decide +kernel
theorem dL_law_355 : decode cL_law 355 = .ok (.iconst 0, 1) := by decide +kernel
theorem dL_law_356 : decode cL_law 356 = .ok (.istore_n 2, 1) := by decide +kernel
theorem dL_law_357 : decode cL_law 357 = .ok (.iload_n 2, 1) := by decide +kernel
theorem dL_law_358 : decode cL_law 358 = .ok (.ifCond .eq 83, 3) := by decide +kernel
theorem dL_law_361 : decode cL_law 361 = .ok (.iload 6, 2) := by decide +kernel
theorem dL_law_363 : decode cL_law 363 = .ok (.bipush 15, 2) := by decide +kernel
theorem dL_law_365 : decode cL_law 365 = .ok (.irem, 1) := by decide +kernel
theorem dL_law_366 : decode cL_law 366 = .ok (.bipush 14, 2) := by decide +kernel
theorem dL_law_368 : decode cL_law 368 = .ok (.if_icmp .ne 73, 3) := by decide +kernel
theorem dL_law_371 : decode cL_law 371 = .ok (.aload_n 1, 1) := by decide +kernel
theorem dL_law_372 : decode cL_law 372 = .ok (.invokestatic 86, 3) := by decide +kernel
theorem dL_law_375 : decode cL_law 375 = .ok (.lstore 13, 2) := by decide +kernel
theorem dL_law_377 : decode cL_law 377 = .ok (.aload_n 1, 1) := by decide +kernel
theorem dL_law_378 : decode cL_law 378 = .ok (.iconst 0, 1) := by decide +kernel
theorem dL_law_379 : decode cL_law 379 = .ok (.invokevirtual 14, 3) := by decide +kernel
theorem dL_law_382 : decode cL_law 382 = .ok (.istore 15, 2) := by decide +kernel
theorem dL_law_384 : decode cL_law 384 = .ok (.aload_n 1, 1) := by decide +kernel
theorem dL_law_385 : decode cL_law 385 = .ok (.invokevirtual 98, 3) := by decide +kernel
theorem dL_law_388 : decode cL_law 388 = .ok (.iload 5, 2) := by decide +kernel
theorem dL_law_390 : decode cL_law 390 = .ok (.if_icmp .ne 42, 3) := by decide +kernel
theorem dL_law_393 : decode cL_law 393 = .ok (.aload_n 1, 1) := by decide +kernel
theorem dL_law_394 : decode cL_law 394 = .ok (.invokestatic 86, 3) := by decide +kernel
theorem dL_law_397 : decode cL_law 397 = .ok (.lload_n 3, 1) := by decide +kernel
theorem dL_law_398 : decode cL_law 398 = .ok (.lcmp, 1) := by decide +kernel
theorem dL_law_399 : decode cL_law 399 = .ok (.ifCond .ne 33, 3) := by decide +kernel
theorem dL_law_402 : decode cL_law 402 = .ok (.aload_n 1, 1) := by decide +kernel
theorem dL_law_403 : decode cL_law 403 = .ok (.invokevirtual 95, 3) := by decide +kernel
theorem dL_law_406 : decode cL_law 406 = .ok (.ifCond .lt 26, 3) := by decide +kernel
theorem dL_law_409 : decode cL_law 409 = .ok (.aload_n 1, 1) := by decide +kernel
theorem dL_law_410 : decode cL_law 410 = .ok (.invokestatic 86, 3) := by decide +kernel
theorem dL_law_413 : decode cL_law 413 = .ok (.lload 13, 2) := by decide +kernel
theorem dL_law_415 : decode cL_law 415 = .ok (.lcmp, 1) := by decide +kernel
theorem dL_law_416 : decode cL_law 416 = .ok (.ifCond .ne 16, 3) := by decide +kernel
theorem dL_law_419 : decode cL_law 419 = .ok (.aload_n 1, 1) := by decide +kernel
theorem dL_law_420 : decode cL_law 420 = .ok (.invokevirtual 104, 3) := by decide +kernel
theorem dL_law_423 : decode cL_law 423 = .ok (.iload 15, 2) := by decide +kernel
theorem dL_law_425 : decode cL_law 425 = .ok (.if_icmp .ne 7, 3) := by decide +kernel
theorem dL_law_428 : decode cL_law 428 = .ok (.iconst 1, 1) := by decide +kernel
theorem dL_law_429 : decode cL_law 429 = .ok (.goto 4, 3) := by decide +kernel
theorem dL_law_432 : decode cL_law 432 = .ok (.iconst 0, 1) := by decide +kernel
theorem dL_law_433 : decode cL_law 433 = .ok (.istore_n 2, 1) := by decide +kernel
theorem dL_law_434 : decode cL_law 434 = .ok (.lload 13, 2) := by decide +kernel
theorem dL_law_436 : decode cL_law 436 = .ok (.lstore_n 3, 1) := by decide +kernel
theorem dL_law_437 : decode cL_law 437 = .ok (.iload 15, 2) := by decide +kernel
theorem dL_law_439 : decode cL_law 439 = .ok (.istore 5, 2) := by decide +kernel
theorem dL_law_441 : decode cL_law 441 = .ok (.iinc 6 1, 3) := by decide +kernel
theorem dL_law_444 : decode cL_law 444 = .ok (.goto (-314), 3) := by decide +kernel
theorem dL_law_447 : decode cL_law 447 = .ok (.iload_n 2, 1) := by decide +kernel
theorem dL_law_448 : decode cL_law 448 = .ok (.ireturn, 1) := by decide +kernel
