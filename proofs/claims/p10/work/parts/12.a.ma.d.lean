theorem d_Ma_standsAgain_0 : decode prog_7_method_10_code 0 = .ok (.aload_n 0, 1) := by decide +kernel
theorem d_Ma_standsAgain_1 : decode prog_7_method_10_code 1 = .ok (.getfield 18, 3) := by decide +kernel
theorem d_Ma_standsAgain_4 : decode prog_7_method_10_code 4 = .ok (.iload_n 1, 1) := by decide +kernel
theorem d_Ma_standsAgain_5 : decode prog_7_method_10_code 5 = .ok (.iaload, 1) := by decide +kernel
theorem d_Ma_standsAgain_6 : decode prog_7_method_10_code 6 = .ok (.istore_n 3, 1) := by decide +kernel
theorem d_Ma_standsAgain_7 : decode prog_7_method_10_code 7 = .ok (.aload_n 0, 1) := by decide +kernel
theorem d_Ma_standsAgain_8 : decode prog_7_method_10_code 8 = .ok (.getfield 21, 3) := by decide +kernel
theorem d_Ma_standsAgain_11 : decode prog_7_method_10_code 11 = .ok (.iload_n 1, 1) := by decide +kernel
theorem d_Ma_standsAgain_12 : decode prog_7_method_10_code 12 = .ok (.iaload, 1) := by decide +kernel
theorem d_Ma_standsAgain_13 : decode prog_7_method_10_code 13 = .ok (.iload_n 3, 1) := by decide +kernel
theorem d_Ma_standsAgain_14 : decode prog_7_method_10_code 14 = .ok (.isub, 1) := by decide +kernel
theorem d_Ma_standsAgain_15 : decode prog_7_method_10_code 15 = .ok (.istore 4, 2) := by decide +kernel
theorem d_Ma_standsAgain_17 : decode prog_7_method_10_code 17 = .ok (.iload 4, 2) := by decide +kernel
theorem d_Ma_standsAgain_19 : decode prog_7_method_10_code 19 = .ok (.aload_n 0, 1) := by decide +kernel
theorem d_Ma_standsAgain_20 : decode prog_7_method_10_code 20 = .ok (.getfield 32, 3) := by decide +kernel
theorem d_Ma_standsAgain_23 : decode prog_7_method_10_code 23 = .ok (.getfield 42, 3) := by decide +kernel
theorem d_Ma_standsAgain_26 : decode prog_7_method_10_code 26 = .ok (.iload_n 2, 1) := by decide +kernel
theorem d_Ma_standsAgain_27 : decode prog_7_method_10_code 27 = .ok (.isub, 1) := by decide +kernel
theorem d_Ma_standsAgain_28 : decode prog_7_method_10_code 28 = .ok (.if_icmp .le 5, 3) := by decide +kernel
theorem d_Ma_standsAgain_31 : decode prog_7_method_10_code 31 = .ok (.iconst 0, 1) := by decide +kernel
theorem d_Ma_standsAgain_32 : decode prog_7_method_10_code 32 = .ok (.ireturn, 1) := by decide +kernel
theorem d_Ma_standsAgain_33 : decode prog_7_method_10_code 33 = .ok (.iconst 0, 1) := by decide +kernel
theorem d_Ma_standsAgain_34 : decode prog_7_method_10_code 34 = .ok (.istore 5, 2) := by decide +kernel
theorem d_Ma_standsAgain_36 : decode prog_7_method_10_code 36 = .ok (.iload 5, 2) := by decide +kernel
theorem d_Ma_standsAgain_38 : decode prog_7_method_10_code 38 = .ok (.iload 4, 2) := by decide +kernel
theorem d_Ma_standsAgain_40 : decode prog_7_method_10_code 40 = .ok (.if_icmp .ge 38, 3) := by decide +kernel
theorem d_Ma_standsAgain_43 : decode prog_7_method_10_code 43 = .ok (.aload_n 0, 1) := by decide +kernel
theorem d_Ma_standsAgain_44 : decode prog_7_method_10_code 44 = .ok (.getfield 32, 3) := by decide +kernel
theorem d_Ma_standsAgain_47 : decode prog_7_method_10_code 47 = .ok (.getfield 88, 3) := by decide +kernel
theorem d_Ma_standsAgain_50 : decode prog_7_method_10_code 50 = .ok (.iload_n 3, 1) := by decide +kernel
theorem d_Ma_standsAgain_51 : decode prog_7_method_10_code 51 = .ok (.iload 5, 2) := by decide +kernel
theorem d_Ma_standsAgain_53 : decode prog_7_method_10_code 53 = .ok (.iadd, 1) := by decide +kernel
theorem d_Ma_standsAgain_54 : decode prog_7_method_10_code 54 = .ok (.caload, 1) := by decide +kernel
theorem d_Ma_standsAgain_55 : decode prog_7_method_10_code 55 = .ok (.aload_n 0, 1) := by decide +kernel
theorem d_Ma_standsAgain_56 : decode prog_7_method_10_code 56 = .ok (.getfield 32, 3) := by decide +kernel
theorem d_Ma_standsAgain_59 : decode prog_7_method_10_code 59 = .ok (.getfield 88, 3) := by decide +kernel
theorem d_Ma_standsAgain_62 : decode prog_7_method_10_code 62 = .ok (.iload_n 2, 1) := by decide +kernel
theorem d_Ma_standsAgain_63 : decode prog_7_method_10_code 63 = .ok (.iload 5, 2) := by decide +kernel
theorem d_Ma_standsAgain_65 : decode prog_7_method_10_code 65 = .ok (.iadd, 1) := by decide +kernel
theorem d_Ma_standsAgain_66 : decode prog_7_method_10_code 66 = .ok (.caload, 1) := by decide +kernel
theorem d_Ma_standsAgain_67 : decode prog_7_method_10_code 67 = .ok (.if_icmp .eq 5, 3) := by decide +kernel
theorem d_Ma_standsAgain_70 : decode prog_7_method_10_code 70 = .ok (.iconst 0, 1) := by decide +kernel
theorem d_Ma_standsAgain_71 : decode prog_7_method_10_code 71 = .ok (.ireturn, 1) := by decide +kernel
theorem d_Ma_standsAgain_72 : decode prog_7_method_10_code 72 = .ok (.iinc 5 1, 3) := by decide +kernel
theorem d_Ma_standsAgain_75 : decode prog_7_method_10_code 75 = .ok (.goto (-39), 3) := by decide +kernel
theorem d_Ma_standsAgain_78 : decode prog_7_method_10_code 78 = .ok (.iconst 1, 1) := by decide +kernel
theorem d_Ma_standsAgain_79 : decode prog_7_method_10_code 79 = .ok (.ireturn, 1) := by decide +kernel
theorem d_Ma_walk_0 : decode prog_7_method_9_code 0 = .ok (.iload_n 3, 1) := by decide +kernel
theorem d_Ma_walk_1 : decode prog_7_method_9_code 1 = .ok (.istore 4, 2) := by decide +kernel
theorem d_Ma_walk_3 : decode prog_7_method_9_code 3 = .ok (.iload_n 1, 1) := by decide +kernel
theorem d_Ma_walk_4 : decode prog_7_method_9_code 4 = .ok (.istore 5, 2) := by decide +kernel
theorem d_Ma_walk_6 : decode prog_7_method_9_code 6 = .ok (.iload 5, 2) := by decide +kernel
theorem d_Ma_walk_8 : decode prog_7_method_9_code 8 = .ok (.iload_n 2, 1) := by decide +kernel
theorem d_Ma_walk_9 : decode prog_7_method_9_code 9 = .ok (.if_icmp .ge 156, 3) := by decide +kernel
theorem d_Ma_walk_12 : decode prog_7_method_9_code 12 = .ok (.aload_n 0, 1) := by decide +kernel
theorem d_Ma_walk_13 : decode prog_7_method_9_code 13 = .ok (.getfield 24, 3) := by decide +kernel
theorem d_Ma_walk_16 : decode prog_7_method_9_code 16 = .ok (.getfield 97, 3) := by decide +kernel
theorem d_Ma_walk_19 : decode prog_7_method_9_code 19 = .ok (.iload 5, 2) := by decide +kernel
theorem d_Ma_walk_21 : decode prog_7_method_9_code 21 = .ok (.iaload, 1) := by decide +kernel
theorem d_Ma_walk_22 : decode prog_7_method_9_code 22 = .ok (.istore 6, 2) := by decide +kernel
theorem d_Ma_walk_24 : decode prog_7_method_9_code 24 = .ok (.aload_n 0, 1) := by decide +kernel
theorem d_Ma_walk_25 : decode prog_7_method_9_code 25 = .ok (.getfield 24, 3) := by decide +kernel
theorem d_Ma_walk_28 : decode prog_7_method_9_code 28 = .ok (.getfield 100, 3) := by decide +kernel
theorem d_Ma_walk_31 : decode prog_7_method_9_code 31 = .ok (.iload 5, 2) := by decide +kernel
theorem d_Ma_walk_33 : decode prog_7_method_9_code 33 = .ok (.iaload, 1) := by decide +kernel
theorem d_Ma_walk_34 : decode prog_7_method_9_code 34 = .ok (.tableswitch 86 1 3 #[26, 38, 50], 26) := by decide +kernel
theorem d_Ma_walk_60 : decode prog_7_method_9_code 60 = .ok (.aload_n 0, 1) := by decide +kernel
theorem d_Ma_walk_61 : decode prog_7_method_9_code 61 = .ok (.getfield 18, 3) := by decide +kernel
theorem d_Ma_walk_64 : decode prog_7_method_9_code 64 = .ok (.iload 6, 2) := by decide +kernel
theorem d_Ma_walk_66 : decode prog_7_method_9_code 66 = .ok (.iload 4, 2) := by decide +kernel
theorem d_Ma_walk_68 : decode prog_7_method_9_code 68 = .ok (.iastore, 1) := by decide +kernel
theorem d_Ma_walk_69 : decode prog_7_method_9_code 69 = .ok (.goto 90, 3) := by decide +kernel
theorem d_Ma_walk_72 : decode prog_7_method_9_code 72 = .ok (.aload_n 0, 1) := by decide +kernel
theorem d_Ma_walk_73 : decode prog_7_method_9_code 73 = .ok (.getfield 21, 3) := by decide +kernel
theorem d_Ma_walk_76 : decode prog_7_method_9_code 76 = .ok (.iload 6, 2) := by decide +kernel
theorem d_Ma_walk_78 : decode prog_7_method_9_code 78 = .ok (.iload 4, 2) := by decide +kernel
theorem d_Ma_walk_80 : decode prog_7_method_9_code 80 = .ok (.iastore, 1) := by decide +kernel
theorem d_Ma_walk_81 : decode prog_7_method_9_code 81 = .ok (.goto 78, 3) := by decide +kernel
theorem d_Ma_walk_84 : decode prog_7_method_9_code 84 = .ok (.aload_n 0, 1) := by decide +kernel
theorem d_Ma_walk_85 : decode prog_7_method_9_code 85 = .ok (.iload 6, 2) := by decide +kernel
theorem d_Ma_walk_87 : decode prog_7_method_9_code 87 = .ok (.iload 4, 2) := by decide +kernel
theorem d_Ma_walk_89 : decode prog_7_method_9_code 89 = .ok (.invokevirtual 103, 3) := by decide +kernel
theorem d_Ma_walk_92 : decode prog_7_method_9_code 92 = .ok (.ifCond .ne 5, 3) := by decide +kernel
theorem d_Ma_walk_95 : decode prog_7_method_9_code 95 = .ok (.iconst (-1), 1) := by decide +kernel
theorem d_Ma_walk_96 : decode prog_7_method_9_code 96 = .ok (.ireturn, 1) := by decide +kernel
theorem d_Ma_walk_97 : decode prog_7_method_9_code 97 = .ok (.iload 4, 2) := by decide +kernel
theorem d_Ma_walk_99 : decode prog_7_method_9_code 99 = .ok (.aload_n 0, 1) := by decide +kernel
theorem d_Ma_walk_100 : decode prog_7_method_9_code 100 = .ok (.getfield 21, 3) := by decide +kernel
theorem d_Ma_walk_103 : decode prog_7_method_9_code 103 = .ok (.iload 6, 2) := by decide +kernel
theorem d_Ma_walk_105 : decode prog_7_method_9_code 105 = .ok (.iaload, 1) := by decide +kernel
theorem d_Ma_walk_106 : decode prog_7_method_9_code 106 = .ok (.aload_n 0, 1) := by decide +kernel
theorem d_Ma_walk_107 : decode prog_7_method_9_code 107 = .ok (.getfield 18, 3) := by decide +kernel
theorem d_Ma_walk_110 : decode prog_7_method_9_code 110 = .ok (.iload 6, 2) := by decide +kernel
theorem d_Ma_walk_112 : decode prog_7_method_9_code 112 = .ok (.iaload, 1) := by decide +kernel
theorem d_Ma_walk_113 : decode prog_7_method_9_code 113 = .ok (.isub, 1) := by decide +kernel
theorem d_Ma_walk_114 : decode prog_7_method_9_code 114 = .ok (.iadd, 1) := by decide +kernel
theorem d_Ma_walk_115 : decode prog_7_method_9_code 115 = .ok (.istore 4, 2) := by decide +kernel
theorem d_Ma_walk_117 : decode prog_7_method_9_code 117 = .ok (.goto 42, 3) := by decide +kernel
theorem d_Ma_walk_120 : decode prog_7_method_9_code 120 = .ok (.iload 4, 2) := by decide +kernel
theorem d_Ma_walk_122 : decode prog_7_method_9_code 122 = .ok (.aload_n 0, 1) := by decide +kernel
theorem d_Ma_walk_123 : decode prog_7_method_9_code 123 = .ok (.getfield 32, 3) := by decide +kernel
theorem d_Ma_walk_126 : decode prog_7_method_9_code 126 = .ok (.getfield 42, 3) := by decide +kernel
theorem d_Ma_walk_129 : decode prog_7_method_9_code 129 = .ok (.if_icmp .ge 25, 3) := by decide +kernel
theorem d_Ma_walk_132 : decode prog_7_method_9_code 132 = .ok (.aload_n 0, 1) := by decide +kernel
theorem d_Ma_walk_133 : decode prog_7_method_9_code 133 = .ok (.getfield 24, 3) := by decide +kernel
theorem d_Ma_walk_136 : decode prog_7_method_9_code 136 = .ok (.iload 5, 2) := by decide +kernel
theorem d_Ma_walk_138 : decode prog_7_method_9_code 138 = .ok (.aload_n 0, 1) := by decide +kernel
theorem d_Ma_walk_139 : decode prog_7_method_9_code 139 = .ok (.getfield 32, 3) := by decide +kernel
theorem d_Ma_walk_142 : decode prog_7_method_9_code 142 = .ok (.getfield 88, 3) := by decide +kernel
theorem d_Ma_walk_145 : decode prog_7_method_9_code 145 = .ok (.iload 4, 2) := by decide +kernel
theorem d_Ma_walk_147 : decode prog_7_method_9_code 147 = .ok (.caload, 1) := by decide +kernel
theorem d_Ma_walk_148 : decode prog_7_method_9_code 148 = .ok (.invokevirtual 92, 3) := by decide +kernel
theorem d_Ma_walk_151 : decode prog_7_method_9_code 151 = .ok (.ifCond .ne 5, 3) := by decide +kernel
theorem d_Ma_walk_154 : decode prog_7_method_9_code 154 = .ok (.iconst (-1), 1) := by decide +kernel
theorem d_Ma_walk_155 : decode prog_7_method_9_code 155 = .ok (.ireturn, 1) := by decide +kernel
theorem d_Ma_walk_156 : decode prog_7_method_9_code 156 = .ok (.iinc 4 1, 3) := by decide +kernel
theorem d_Ma_walk_159 : decode prog_7_method_9_code 159 = .ok (.iinc 5 1, 3) := by decide +kernel
theorem d_Ma_walk_162 : decode prog_7_method_9_code 162 = .ok (.goto (-156), 3) := by decide +kernel
theorem d_Ma_walk_165 : decode prog_7_method_9_code 165 = .ok (.iload 4, 2) := by decide +kernel
theorem d_Ma_walk_167 : decode prog_7_method_9_code 167 = .ok (.ireturn, 1) := by decide +kernel
theorem d_Ma_repeats_0 : decode prog_7_method_8_code 0 = .ok (.iload_n 1, 1) := by decide +kernel
theorem d_Ma_repeats_1 : decode prog_7_method_8_code 1 = .ok (.aload_n 0, 1) := by decide +kernel
theorem d_Ma_repeats_2 : decode prog_7_method_8_code 2 = .ok (.getfield 28, 3) := by decide +kernel
theorem d_Ma_repeats_5 : decode prog_7_method_8_code 5 = .ok (.getfield 78, 3) := by decide +kernel
theorem d_Ma_repeats_8 : decode prog_7_method_8_code 8 = .ok (.if_icmp .ge 27, 3) := by decide +kernel
theorem d_Ma_repeats_11 : decode prog_7_method_8_code 11 = .ok (.aload_n 0, 1) := by decide +kernel
theorem d_Ma_repeats_12 : decode prog_7_method_8_code 12 = .ok (.getfield 24, 3) := by decide +kernel
theorem d_Ma_repeats_15 : decode prog_7_method_8_code 15 = .ok (.iload_n 1, 1) := by decide +kernel
theorem d_Ma_repeats_16 : decode prog_7_method_8_code 16 = .ok (.aload_n 0, 1) := by decide +kernel
theorem d_Ma_repeats_17 : decode prog_7_method_8_code 17 = .ok (.getfield 32, 3) := by decide +kernel
theorem d_Ma_repeats_20 : decode prog_7_method_8_code 20 = .ok (.getfield 88, 3) := by decide +kernel
theorem d_Ma_repeats_23 : decode prog_7_method_8_code 23 = .ok (.iload_n 2, 1) := by decide +kernel
theorem d_Ma_repeats_24 : decode prog_7_method_8_code 24 = .ok (.caload, 1) := by decide +kernel
theorem d_Ma_repeats_25 : decode prog_7_method_8_code 25 = .ok (.invokevirtual 92, 3) := by decide +kernel
theorem d_Ma_repeats_28 : decode prog_7_method_8_code 28 = .ok (.ifCond .eq 7, 3) := by decide +kernel
theorem d_Ma_repeats_31 : decode prog_7_method_8_code 31 = .ok (.iconst 1, 1) := by decide +kernel
theorem d_Ma_repeats_32 : decode prog_7_method_8_code 32 = .ok (.goto 4, 3) := by decide +kernel
theorem d_Ma_repeats_35 : decode prog_7_method_8_code 35 = .ok (.iconst 0, 1) := by decide +kernel
theorem d_Ma_repeats_36 : decode prog_7_method_8_code 36 = .ok (.ireturn, 1) := by decide +kernel
theorem d_Ma_keepIfLongest_0 : decode prog_7_method_7_code 0 = .ok (.iload_n 2, 1) := by decide +kernel
theorem d_Ma_keepIfLongest_1 : decode prog_7_method_7_code 1 = .ok (.iconst (-1), 1) := by decide +kernel
theorem d_Ma_keepIfLongest_2 : decode prog_7_method_7_code 2 = .ok (.if_icmp .eq 32, 3) := by decide +kernel
theorem d_Ma_keepIfLongest_5 : decode prog_7_method_7_code 5 = .ok (.iload_n 2, 1) := by decide +kernel
theorem d_Ma_keepIfLongest_6 : decode prog_7_method_7_code 6 = .ok (.aload_n 0, 1) := by decide +kernel
theorem d_Ma_keepIfLongest_7 : decode prog_7_method_7_code 7 = .ok (.getfield 58, 3) := by decide +kernel
theorem d_Ma_keepIfLongest_10 : decode prog_7_method_7_code 10 = .ok (.if_icmp .lt 24, 3) := by decide +kernel
theorem d_Ma_keepIfLongest_13 : decode prog_7_method_7_code 13 = .ok (.aload_n 0, 1) := by decide +kernel
theorem d_Ma_keepIfLongest_14 : decode prog_7_method_7_code 14 = .ok (.getfield 28, 3) := by decide +kernel
theorem d_Ma_keepIfLongest_17 : decode prog_7_method_7_code 17 = .ok (.getfield 85, 3) := by decide +kernel
theorem d_Ma_keepIfLongest_20 : decode prog_7_method_7_code 20 = .ok (.ifCond .eq 15, 3) := by decide +kernel
theorem d_Ma_keepIfLongest_23 : decode prog_7_method_7_code 23 = .ok (.iload_n 2, 1) := by decide +kernel
theorem d_Ma_keepIfLongest_24 : decode prog_7_method_7_code 24 = .ok (.aload_n 0, 1) := by decide +kernel
theorem d_Ma_keepIfLongest_25 : decode prog_7_method_7_code 25 = .ok (.getfield 32, 3) := by decide +kernel
theorem d_Ma_keepIfLongest_28 : decode prog_7_method_7_code 28 = .ok (.getfield 42, 3) := by decide +kernel
theorem d_Ma_keepIfLongest_31 : decode prog_7_method_7_code 31 = .ok (.if_icmp .eq 4, 3) := by decide +kernel
theorem d_Ma_keepIfLongest_34 : decode prog_7_method_7_code 34 = .ok (.return_, 1) := by decide +kernel
theorem d_Ma_keepIfLongest_35 : decode prog_7_method_7_code 35 = .ok (.aload_n 0, 1) := by decide +kernel
theorem d_Ma_keepIfLongest_36 : decode prog_7_method_7_code 36 = .ok (.iload_n 1, 1) := by decide +kernel
theorem d_Ma_keepIfLongest_37 : decode prog_7_method_7_code 37 = .ok (.putfield 55, 3) := by decide +kernel
theorem d_Ma_keepIfLongest_40 : decode prog_7_method_7_code 40 = .ok (.aload_n 0, 1) := by decide +kernel
theorem d_Ma_keepIfLongest_41 : decode prog_7_method_7_code 41 = .ok (.iload_n 2, 1) := by decide +kernel
theorem d_Ma_keepIfLongest_42 : decode prog_7_method_7_code 42 = .ok (.putfield 58, 3) := by decide +kernel
theorem d_Ma_keepIfLongest_45 : decode prog_7_method_7_code 45 = .ok (.iconst 1, 1) := by decide +kernel
theorem d_Ma_keepIfLongest_46 : decode prog_7_method_7_code 46 = .ok (.istore_n 3, 1) := by decide +kernel
theorem d_Ma_keepIfLongest_47 : decode prog_7_method_7_code 47 = .ok (.iload_n 3, 1) := by decide +kernel
theorem d_Ma_keepIfLongest_48 : decode prog_7_method_7_code 48 = .ok (.aload_n 0, 1) := by decide +kernel
theorem d_Ma_keepIfLongest_49 : decode prog_7_method_7_code 49 = .ok (.getfield 28, 3) := by decide +kernel
theorem d_Ma_keepIfLongest_52 : decode prog_7_method_7_code 52 = .ok (.getfield 52, 3) := by decide +kernel
theorem d_Ma_keepIfLongest_55 : decode prog_7_method_7_code 55 = .ok (.if_icmp .gt 33, 3) := by decide +kernel
theorem d_Ma_keepIfLongest_58 : decode prog_7_method_7_code 58 = .ok (.aload_n 0, 1) := by decide +kernel
theorem d_Ma_keepIfLongest_59 : decode prog_7_method_7_code 59 = .ok (.getfield 9, 3) := by decide +kernel
theorem d_Ma_keepIfLongest_62 : decode prog_7_method_7_code 62 = .ok (.iload_n 3, 1) := by decide +kernel
theorem d_Ma_keepIfLongest_63 : decode prog_7_method_7_code 63 = .ok (.aload_n 0, 1) := by decide +kernel
theorem d_Ma_keepIfLongest_64 : decode prog_7_method_7_code 64 = .ok (.getfield 18, 3) := by decide +kernel
theorem d_Ma_keepIfLongest_67 : decode prog_7_method_7_code 67 = .ok (.iload_n 3, 1) := by decide +kernel
theorem d_Ma_keepIfLongest_68 : decode prog_7_method_7_code 68 = .ok (.iaload, 1) := by decide +kernel
theorem d_Ma_keepIfLongest_69 : decode prog_7_method_7_code 69 = .ok (.iastore, 1) := by decide +kernel
theorem d_Ma_keepIfLongest_70 : decode prog_7_method_7_code 70 = .ok (.aload_n 0, 1) := by decide +kernel
theorem d_Ma_keepIfLongest_71 : decode prog_7_method_7_code 71 = .ok (.getfield 15, 3) := by decide +kernel
theorem d_Ma_keepIfLongest_74 : decode prog_7_method_7_code 74 = .ok (.iload_n 3, 1) := by decide +kernel
theorem d_Ma_keepIfLongest_75 : decode prog_7_method_7_code 75 = .ok (.aload_n 0, 1) := by decide +kernel
theorem d_Ma_keepIfLongest_76 : decode prog_7_method_7_code 76 = .ok (.getfield 21, 3) := by decide +kernel
theorem d_Ma_keepIfLongest_79 : decode prog_7_method_7_code 79 = .ok (.iload_n 3, 1) := by decide +kernel
theorem d_Ma_keepIfLongest_80 : decode prog_7_method_7_code 80 = .ok (.iaload, 1) := by decide +kernel
theorem d_Ma_keepIfLongest_81 : decode prog_7_method_7_code 81 = .ok (.iastore, 1) := by decide +kernel
theorem d_Ma_keepIfLongest_82 : decode prog_7_method_7_code 82 = .ok (.iinc 3 1, 3) := by decide +kernel
theorem d_Ma_keepIfLongest_85 : decode prog_7_method_7_code 85 = .ok (.goto (-38), 3) := by decide +kernel
theorem d_Ma_keepIfLongest_88 : decode prog_7_method_7_code 88 = .ok (.return_, 1) := by decide +kernel
theorem d_Ma_findLongest_0 : decode prog_7_method_6_code 0 = .ok (.aload_n 0, 1) := by decide +kernel
theorem d_Ma_findLongest_1 : decode prog_7_method_6_code 1 = .ok (.iconst (-1), 1) := by decide +kernel
theorem d_Ma_findLongest_2 : decode prog_7_method_6_code 2 = .ok (.putfield 58, 3) := by decide +kernel
theorem d_Ma_findLongest_5 : decode prog_7_method_6_code 5 = .ok (.aload_n 0, 1) := by decide +kernel
theorem d_Ma_findLongest_6 : decode prog_7_method_6_code 6 = .ok (.aload_n 0, 1) := by decide +kernel
theorem d_Ma_findLongest_7 : decode prog_7_method_6_code 7 = .ok (.getfield 28, 3) := by decide +kernel
theorem d_Ma_findLongest_10 : decode prog_7_method_6_code 10 = .ok (.getfield 61, 3) := by decide +kernel
theorem d_Ma_findLongest_13 : decode prog_7_method_6_code 13 = .ok (.aload_n 0, 1) := by decide +kernel
theorem d_Ma_findLongest_14 : decode prog_7_method_6_code 14 = .ok (.getfield 28, 3) := by decide +kernel
theorem d_Ma_findLongest_17 : decode prog_7_method_6_code 17 = .ok (.getfield 64, 3) := by decide +kernel
theorem d_Ma_findLongest_20 : decode prog_7_method_6_code 20 = .ok (.iload_n 1, 1) := by decide +kernel
theorem d_Ma_findLongest_21 : decode prog_7_method_6_code 21 = .ok (.invokevirtual 67, 3) := by decide +kernel
theorem d_Ma_findLongest_24 : decode prog_7_method_6_code 24 = .ok (.istore_n 2, 1) := by decide +kernel
theorem d_Ma_findLongest_25 : decode prog_7_method_6_code 25 = .ok (.iload_n 2, 1) := by decide +kernel
theorem d_Ma_findLongest_26 : decode prog_7_method_6_code 26 = .ok (.istore_n 3, 1) := by decide +kernel
theorem d_Ma_findLongest_27 : decode prog_7_method_6_code 27 = .ok (.iload_n 3, 1) := by decide +kernel
theorem d_Ma_findLongest_28 : decode prog_7_method_6_code 28 = .ok (.ifCond .lt 150, 3) := by decide +kernel
theorem d_Ma_findLongest_31 : decode prog_7_method_6_code 31 = .ok (.iload_n 3, 1) := by decide +kernel
theorem d_Ma_findLongest_32 : decode prog_7_method_6_code 32 = .ok (.aload_n 0, 1) := by decide +kernel
theorem d_Ma_findLongest_33 : decode prog_7_method_6_code 33 = .ok (.getfield 32, 3) := by decide +kernel
theorem d_Ma_findLongest_36 : decode prog_7_method_6_code 36 = .ok (.getfield 42, 3) := by decide +kernel
theorem d_Ma_findLongest_39 : decode prog_7_method_6_code 39 = .ok (.if_icmp .gt 139, 3) := by decide +kernel
theorem d_Ma_findLongest_42 : decode prog_7_method_6_code 42 = .ok (.iload_n 3, 1) := by decide +kernel
theorem d_Ma_findLongest_43 : decode prog_7_method_6_code 43 = .ok (.iload_n 2, 1) := by decide +kernel
theorem d_Ma_findLongest_44 : decode prog_7_method_6_code 44 = .ok (.if_icmp .le 23, 3) := by decide +kernel
theorem d_Ma_findLongest_47 : decode prog_7_method_6_code 47 = .ok (.aload_n 0, 1) := by decide +kernel
theorem d_Ma_findLongest_48 : decode prog_7_method_6_code 48 = .ok (.aload_n 0, 1) := by decide +kernel
theorem d_Ma_findLongest_49 : decode prog_7_method_6_code 49 = .ok (.getfield 28, 3) := by decide +kernel
theorem d_Ma_findLongest_52 : decode prog_7_method_6_code 52 = .ok (.getfield 64, 3) := by decide +kernel
theorem d_Ma_findLongest_55 : decode prog_7_method_6_code 55 = .ok (.iload_n 3, 1) := by decide +kernel
theorem d_Ma_findLongest_56 : decode prog_7_method_6_code 56 = .ok (.iconst 1, 1) := by decide +kernel
theorem d_Ma_findLongest_57 : decode prog_7_method_6_code 57 = .ok (.isub, 1) := by decide +kernel
theorem d_Ma_findLongest_58 : decode prog_7_method_6_code 58 = .ok (.invokevirtual 71, 3) := by decide +kernel
theorem d_Ma_findLongest_61 : decode prog_7_method_6_code 61 = .ok (.ifCond .ne 6, 3) := by decide +kernel
theorem d_Ma_findLongest_64 : decode prog_7_method_6_code 64 = .ok (.goto 114, 3) := by decide +kernel
theorem d_Ma_findLongest_67 : decode prog_7_method_6_code 67 = .ok (.aload_n 0, 1) := by decide +kernel
theorem d_Ma_findLongest_68 : decode prog_7_method_6_code 68 = .ok (.aload_n 0, 1) := by decide +kernel
theorem d_Ma_findLongest_69 : decode prog_7_method_6_code 69 = .ok (.getfield 28, 3) := by decide +kernel
theorem d_Ma_findLongest_72 : decode prog_7_method_6_code 72 = .ok (.getfield 64, 3) := by decide +kernel
theorem d_Ma_findLongest_75 : decode prog_7_method_6_code 75 = .ok (.iconst 1, 1) := by decide +kernel
theorem d_Ma_findLongest_76 : decode prog_7_method_6_code 76 = .ok (.iadd, 1) := by decide +kernel
theorem d_Ma_findLongest_77 : decode prog_7_method_6_code 77 = .ok (.aload_n 0, 1) := by decide +kernel
theorem d_Ma_findLongest_78 : decode prog_7_method_6_code 78 = .ok (.getfield 28, 3) := by decide +kernel
theorem d_Ma_findLongest_81 : decode prog_7_method_6_code 81 = .ok (.getfield 75, 3) := by decide +kernel
theorem d_Ma_findLongest_84 : decode prog_7_method_6_code 84 = .ok (.iload_n 3, 1) := by decide +kernel
theorem d_Ma_findLongest_85 : decode prog_7_method_6_code 85 = .ok (.invokevirtual 67, 3) := by decide +kernel
theorem d_Ma_findLongest_88 : decode prog_7_method_6_code 88 = .ok (.istore 4, 2) := by decide +kernel
theorem d_Ma_findLongest_90 : decode prog_7_method_6_code 90 = .ok (.iload 4, 2) := by decide +kernel
theorem d_Ma_findLongest_92 : decode prog_7_method_6_code 92 = .ok (.istore 5, 2) := by decide +kernel
theorem d_Ma_findLongest_94 : decode prog_7_method_6_code 94 = .ok (.iload 5, 2) := by decide +kernel
theorem d_Ma_findLongest_96 : decode prog_7_method_6_code 96 = .ok (.ifCond .lt 76, 3) := by decide +kernel
theorem d_Ma_findLongest_99 : decode prog_7_method_6_code 99 = .ok (.iload 5, 2) := by decide +kernel
theorem d_Ma_findLongest_101 : decode prog_7_method_6_code 101 = .ok (.aload_n 0, 1) := by decide +kernel
theorem d_Ma_findLongest_102 : decode prog_7_method_6_code 102 = .ok (.getfield 32, 3) := by decide +kernel
theorem d_Ma_findLongest_105 : decode prog_7_method_6_code 105 = .ok (.getfield 42, 3) := by decide +kernel
theorem d_Ma_findLongest_108 : decode prog_7_method_6_code 108 = .ok (.if_icmp .gt 64, 3) := by decide +kernel
theorem d_Ma_findLongest_111 : decode prog_7_method_6_code 111 = .ok (.iload 5, 2) := by decide +kernel
theorem d_Ma_findLongest_113 : decode prog_7_method_6_code 113 = .ok (.iload 4, 2) := by decide +kernel
theorem d_Ma_findLongest_115 : decode prog_7_method_6_code 115 = .ok (.if_icmp .le 24, 3) := by decide +kernel
theorem d_Ma_findLongest_118 : decode prog_7_method_6_code 118 = .ok (.aload_n 0, 1) := by decide +kernel
theorem d_Ma_findLongest_119 : decode prog_7_method_6_code 119 = .ok (.aload_n 0, 1) := by decide +kernel
theorem d_Ma_findLongest_120 : decode prog_7_method_6_code 120 = .ok (.getfield 28, 3) := by decide +kernel
theorem d_Ma_findLongest_123 : decode prog_7_method_6_code 123 = .ok (.getfield 75, 3) := by decide +kernel
theorem d_Ma_findLongest_126 : decode prog_7_method_6_code 126 = .ok (.iload 5, 2) := by decide +kernel
theorem d_Ma_findLongest_128 : decode prog_7_method_6_code 128 = .ok (.iconst 1, 1) := by decide +kernel
theorem d_Ma_findLongest_129 : decode prog_7_method_6_code 129 = .ok (.isub, 1) := by decide +kernel
theorem d_Ma_findLongest_130 : decode prog_7_method_6_code 130 = .ok (.invokevirtual 71, 3) := by decide +kernel
theorem d_Ma_findLongest_133 : decode prog_7_method_6_code 133 = .ok (.ifCond .ne 6, 3) := by decide +kernel
theorem d_Ma_findLongest_136 : decode prog_7_method_6_code 136 = .ok (.goto 36, 3) := by decide +kernel
theorem d_Ma_findLongest_139 : decode prog_7_method_6_code 139 = .ok (.aload_n 0, 1) := by decide +kernel
theorem d_Ma_findLongest_140 : decode prog_7_method_6_code 140 = .ok (.iload_n 1, 1) := by decide +kernel
theorem d_Ma_findLongest_141 : decode prog_7_method_6_code 141 = .ok (.aload_n 0, 1) := by decide +kernel
theorem d_Ma_findLongest_142 : decode prog_7_method_6_code 142 = .ok (.aload_n 0, 1) := by decide +kernel
theorem d_Ma_findLongest_143 : decode prog_7_method_6_code 143 = .ok (.getfield 28, 3) := by decide +kernel
theorem d_Ma_findLongest_146 : decode prog_7_method_6_code 146 = .ok (.getfield 75, 3) := by decide +kernel
theorem d_Ma_findLongest_149 : decode prog_7_method_6_code 149 = .ok (.iconst 1, 1) := by decide +kernel
theorem d_Ma_findLongest_150 : decode prog_7_method_6_code 150 = .ok (.iadd, 1) := by decide +kernel
theorem d_Ma_findLongest_151 : decode prog_7_method_6_code 151 = .ok (.aload_n 0, 1) := by decide +kernel
theorem d_Ma_findLongest_152 : decode prog_7_method_6_code 152 = .ok (.getfield 28, 3) := by decide +kernel
theorem d_Ma_findLongest_155 : decode prog_7_method_6_code 155 = .ok (.getfield 78, 3) := by decide +kernel
theorem d_Ma_findLongest_158 : decode prog_7_method_6_code 158 = .ok (.iload 5, 2) := by decide +kernel
theorem d_Ma_findLongest_160 : decode prog_7_method_6_code 160 = .ok (.invokevirtual 67, 3) := by decide +kernel
theorem d_Ma_findLongest_163 : decode prog_7_method_6_code 163 = .ok (.invokevirtual 81, 3) := by decide +kernel
theorem d_Ma_findLongest_166 : decode prog_7_method_6_code 166 = .ok (.iinc 5 1, 3) := by decide +kernel
theorem d_Ma_findLongest_169 : decode prog_7_method_6_code 169 = .ok (.goto (-75), 3) := by decide +kernel
theorem d_Ma_findLongest_172 : decode prog_7_method_6_code 172 = .ok (.iinc 3 1, 3) := by decide +kernel
theorem d_Ma_findLongest_175 : decode prog_7_method_6_code 175 = .ok (.goto (-148), 3) := by decide +kernel
theorem d_Ma_findLongest_178 : decode prog_7_method_6_code 178 = .ok (.aload_n 0, 1) := by decide +kernel
theorem d_Ma_findLongest_179 : decode prog_7_method_6_code 179 = .ok (.getfield 58, 3) := by decide +kernel
theorem d_Ma_findLongest_182 : decode prog_7_method_6_code 182 = .ok (.iconst (-1), 1) := by decide +kernel
theorem d_Ma_findLongest_183 : decode prog_7_method_6_code 183 = .ok (.if_icmp .eq 7, 3) := by decide +kernel
theorem d_Ma_findLongest_186 : decode prog_7_method_6_code 186 = .ok (.iconst 1, 1) := by decide +kernel
theorem d_Ma_findLongest_187 : decode prog_7_method_6_code 187 = .ok (.goto 4, 3) := by decide +kernel
theorem d_Ma_findLongest_190 : decode prog_7_method_6_code 190 = .ok (.iconst 0, 1) := by decide +kernel
theorem d_Ma_findLongest_191 : decode prog_7_method_6_code 191 = .ok (.ireturn, 1) := by decide +kernel
theorem d_Ma_find_0 : decode prog_7_method_2_code 0 = .ok (.aload_n 0, 1) := by decide +kernel
theorem d_Ma_find_1 : decode prog_7_method_2_code 1 = .ok (.aload_n 1, 1) := by decide +kernel
theorem d_Ma_find_2 : decode prog_7_method_2_code 2 = .ok (.putfield 24, 3) := by decide +kernel
theorem d_Ma_find_5 : decode prog_7_method_2_code 5 = .ok (.aload_n 0, 1) := by decide +kernel
theorem d_Ma_find_6 : decode prog_7_method_2_code 6 = .ok (.aload_n 2, 1) := by decide +kernel
theorem d_Ma_find_7 : decode prog_7_method_2_code 7 = .ok (.putfield 28, 3) := by decide +kernel
theorem d_Ma_find_10 : decode prog_7_method_2_code 10 = .ok (.aload_n 0, 1) := by decide +kernel
theorem d_Ma_find_11 : decode prog_7_method_2_code 11 = .ok (.aload_n 3, 1) := by decide +kernel
theorem d_Ma_find_12 : decode prog_7_method_2_code 12 = .ok (.putfield 32, 3) := by decide +kernel
theorem d_Ma_find_15 : decode prog_7_method_2_code 15 = .ok (.aload_n 0, 1) := by decide +kernel
theorem d_Ma_find_16 : decode prog_7_method_2_code 16 = .ok (.getfield 28, 3) := by decide +kernel
theorem d_Ma_find_19 : decode prog_7_method_2_code 19 = .ok (.getfield 36, 3) := by decide +kernel
theorem d_Ma_find_22 : decode prog_7_method_2_code 22 = .ok (.ifCond .eq 7, 3) := by decide +kernel
theorem d_Ma_find_25 : decode prog_7_method_2_code 25 = .ok (.iconst 0, 1) := by decide +kernel
theorem d_Ma_find_26 : decode prog_7_method_2_code 26 = .ok (.goto 10, 3) := by decide +kernel
theorem d_Ma_find_29 : decode prog_7_method_2_code 29 = .ok (.aload_n 0, 1) := by decide +kernel
theorem d_Ma_find_30 : decode prog_7_method_2_code 30 = .ok (.getfield 32, 3) := by decide +kernel
theorem d_Ma_find_33 : decode prog_7_method_2_code 33 = .ok (.getfield 42, 3) := by decide +kernel
theorem d_Ma_find_36 : decode prog_7_method_2_code 36 = .ok (.istore 5, 2) := by decide +kernel
theorem d_Ma_find_38 : decode prog_7_method_2_code 38 = .ok (.iload 4, 2) := by decide +kernel
theorem d_Ma_find_40 : decode prog_7_method_2_code 40 = .ok (.istore 6, 2) := by decide +kernel
theorem d_Ma_find_42 : decode prog_7_method_2_code 42 = .ok (.iload 6, 2) := by decide +kernel
theorem d_Ma_find_44 : decode prog_7_method_2_code 44 = .ok (.iload 5, 2) := by decide +kernel
theorem d_Ma_find_46 : decode prog_7_method_2_code 46 = .ok (.if_icmp .gt 20, 3) := by decide +kernel
theorem d_Ma_find_49 : decode prog_7_method_2_code 49 = .ok (.aload_n 0, 1) := by decide +kernel
theorem d_Ma_find_50 : decode prog_7_method_2_code 50 = .ok (.iload 6, 2) := by decide +kernel
theorem d_Ma_find_52 : decode prog_7_method_2_code 52 = .ok (.invokevirtual 48, 3) := by decide +kernel
theorem d_Ma_find_55 : decode prog_7_method_2_code 55 = .ok (.ifCond .eq 5, 3) := by decide +kernel
theorem d_Ma_find_58 : decode prog_7_method_2_code 58 = .ok (.iconst 1, 1) := by decide +kernel
theorem d_Ma_find_59 : decode prog_7_method_2_code 59 = .ok (.ireturn, 1) := by decide +kernel
theorem d_Ma_find_60 : decode prog_7_method_2_code 60 = .ok (.iinc 6 1, 3) := by decide +kernel
theorem d_Ma_find_63 : decode prog_7_method_2_code 63 = .ok (.goto (-21), 3) := by decide +kernel
theorem d_Ma_find_66 : decode prog_7_method_2_code 66 = .ok (.iconst 0, 1) := by decide +kernel
theorem d_Ma_find_67 : decode prog_7_method_2_code 67 = .ok (.ireturn, 1) := by decide +kernel
theorem d_Ma_beginOf_0 : decode prog_7_method_3_code 0 = .ok (.aload_n 0, 1) := by decide +kernel
theorem d_Ma_beginOf_1 : decode prog_7_method_3_code 1 = .ok (.getfield 9, 3) := by decide +kernel
theorem d_Ma_beginOf_4 : decode prog_7_method_3_code 4 = .ok (.iload_n 1, 1) := by decide +kernel
theorem d_Ma_beginOf_5 : decode prog_7_method_3_code 5 = .ok (.iaload, 1) := by decide +kernel
theorem d_Ma_beginOf_6 : decode prog_7_method_3_code 6 = .ok (.ireturn, 1) := by decide +kernel
theorem d_Ma_endOf_0 : decode prog_7_method_4_code 0 = .ok (.aload_n 0, 1) := by decide +kernel
theorem d_Ma_endOf_1 : decode prog_7_method_4_code 1 = .ok (.getfield 15, 3) := by decide +kernel
theorem d_Ma_endOf_4 : decode prog_7_method_4_code 4 = .ok (.iload_n 1, 1) := by decide +kernel
theorem d_Ma_endOf_5 : decode prog_7_method_4_code 5 = .ok (.iaload, 1) := by decide +kernel
theorem d_Ma_endOf_6 : decode prog_7_method_4_code 6 = .ok (.ireturn, 1) := by decide +kernel
theorem d_Ma_told_0 : decode prog_7_method_5_code 0 = .ok (.iload_n 1, 1) := by decide +kernel
theorem d_Ma_told_1 : decode prog_7_method_5_code 1 = .ok (.iconst 2, 1) := by decide +kernel
theorem d_Ma_told_2 : decode prog_7_method_5_code 2 = .ok (.idiv, 1) := by decide +kernel
theorem d_Ma_told_3 : decode prog_7_method_5_code 3 = .ok (.istore_n 2, 1) := by decide +kernel
theorem d_Ma_told_4 : decode prog_7_method_5_code 4 = .ok (.iload_n 2, 1) := by decide +kernel
theorem d_Ma_told_5 : decode prog_7_method_5_code 5 = .ok (.aload_n 0, 1) := by decide +kernel
theorem d_Ma_told_6 : decode prog_7_method_5_code 6 = .ok (.getfield 28, 3) := by decide +kernel
theorem d_Ma_told_9 : decode prog_7_method_5_code 9 = .ok (.getfield 52, 3) := by decide +kernel
theorem d_Ma_told_12 : decode prog_7_method_5_code 12 = .ok (.if_icmp .le 5, 3) := by decide +kernel
theorem d_Ma_told_15 : decode prog_7_method_5_code 15 = .ok (.iconst (-1), 1) := by decide +kernel
theorem d_Ma_told_16 : decode prog_7_method_5_code 16 = .ok (.ireturn, 1) := by decide +kernel
theorem d_Ma_told_17 : decode prog_7_method_5_code 17 = .ok (.iload_n 2, 1) := by decide +kernel
theorem d_Ma_told_18 : decode prog_7_method_5_code 18 = .ok (.ifCond .ne 10, 3) := by decide +kernel
theorem d_Ma_told_21 : decode prog_7_method_5_code 21 = .ok (.aload_n 0, 1) := by decide +kernel
theorem d_Ma_told_22 : decode prog_7_method_5_code 22 = .ok (.getfield 55, 3) := by decide +kernel
theorem d_Ma_told_25 : decode prog_7_method_5_code 25 = .ok (.goto 9, 3) := by decide +kernel
theorem d_Ma_told_28 : decode prog_7_method_5_code 28 = .ok (.aload_n 0, 1) := by decide +kernel
theorem d_Ma_told_29 : decode prog_7_method_5_code 29 = .ok (.getfield 9, 3) := by decide +kernel
theorem d_Ma_told_32 : decode prog_7_method_5_code 32 = .ok (.iload_n 2, 1) := by decide +kernel
theorem d_Ma_told_33 : decode prog_7_method_5_code 33 = .ok (.iaload, 1) := by decide +kernel
theorem d_Ma_told_34 : decode prog_7_method_5_code 34 = .ok (.istore_n 3, 1) := by decide +kernel
theorem d_Ma_told_35 : decode prog_7_method_5_code 35 = .ok (.iload_n 2, 1) := by decide +kernel
theorem d_Ma_told_36 : decode prog_7_method_5_code 36 = .ok (.ifCond .ne 10, 3) := by decide +kernel
theorem d_Ma_told_39 : decode prog_7_method_5_code 39 = .ok (.aload_n 0, 1) := by decide +kernel
theorem d_Ma_told_40 : decode prog_7_method_5_code 40 = .ok (.getfield 58, 3) := by decide +kernel
theorem d_Ma_told_43 : decode prog_7_method_5_code 43 = .ok (.goto 9, 3) := by decide +kernel
theorem d_Ma_told_46 : decode prog_7_method_5_code 46 = .ok (.aload_n 0, 1) := by decide +kernel
theorem d_Ma_told_47 : decode prog_7_method_5_code 47 = .ok (.getfield 15, 3) := by decide +kernel
theorem d_Ma_told_50 : decode prog_7_method_5_code 50 = .ok (.iload_n 2, 1) := by decide +kernel
theorem d_Ma_told_51 : decode prog_7_method_5_code 51 = .ok (.iaload, 1) := by decide +kernel
theorem d_Ma_told_52 : decode prog_7_method_5_code 52 = .ok (.istore 4, 2) := by decide +kernel
theorem d_Ma_told_54 : decode prog_7_method_5_code 54 = .ok (.iload_n 1, 1) := by decide +kernel
theorem d_Ma_told_55 : decode prog_7_method_5_code 55 = .ok (.iconst 2, 1) := by decide +kernel
theorem d_Ma_told_56 : decode prog_7_method_5_code 56 = .ok (.irem, 1) := by decide +kernel
theorem d_Ma_told_57 : decode prog_7_method_5_code 57 = .ok (.ifCond .ne 7, 3) := by decide +kernel
theorem d_Ma_told_60 : decode prog_7_method_5_code 60 = .ok (.iload_n 3, 1) := by decide +kernel
theorem d_Ma_told_61 : decode prog_7_method_5_code 61 = .ok (.goto 7, 3) := by decide +kernel
theorem d_Ma_told_64 : decode prog_7_method_5_code 64 = .ok (.iload 4, 2) := by decide +kernel
theorem d_Ma_told_66 : decode prog_7_method_5_code 66 = .ok (.iload_n 3, 1) := by decide +kernel
theorem d_Ma_told_67 : decode prog_7_method_5_code 67 = .ok (.isub, 1) := by decide +kernel
theorem d_Ma_told_68 : decode prog_7_method_5_code 68 = .ok (.ireturn, 1) := by decide +kernel
