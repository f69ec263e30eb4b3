theorem d_Mod_takeSpace_0 : decode prog_14_method_42_code 0 = .ok (.iconst 0, 1) := by decide +kernel
theorem d_Mod_takeSpace_1 : decode prog_14_method_42_code 1 = .ok (.istore_n 1, 1) := by decide +kernel
theorem d_Mod_takeSpace_2 : decode prog_14_method_42_code 2 = .ok (.iload_n 1, 1) := by decide +kernel
theorem d_Mod_takeSpace_3 : decode prog_14_method_42_code 3 = .ok (.aload_n 0, 1) := by decide +kernel
theorem d_Mod_takeSpace_4 : decode prog_14_method_42_code 4 = .ok (.getfield 319, 3) := by decide +kernel
theorem d_Mod_takeSpace_7 : decode prog_14_method_42_code 7 = .ok (.if_icmp .ge 21, 3) := by decide +kernel
theorem d_Mod_takeSpace_10 : decode prog_14_method_42_code 10 = .ok (.aload_n 0, 1) := by decide +kernel
theorem d_Mod_takeSpace_11 : decode prog_14_method_42_code 11 = .ok (.getfield 121, 3) := by decide +kernel
theorem d_Mod_takeSpace_14 : decode prog_14_method_42_code 14 = .ok (.iload_n 1, 1) := by decide +kernel
theorem d_Mod_takeSpace_15 : decode prog_14_method_42_code 15 = .ok (.aload_n 0, 1) := by decide +kernel
theorem d_Mod_takeSpace_16 : decode prog_14_method_42_code 16 = .ok (.getfield 130, 3) := by decide +kernel
theorem d_Mod_takeSpace_19 : decode prog_14_method_42_code 19 = .ok (.iload_n 1, 1) := by decide +kernel
theorem d_Mod_takeSpace_20 : decode prog_14_method_42_code 20 = .ok (.iaload, 1) := by decide +kernel
theorem d_Mod_takeSpace_21 : decode prog_14_method_42_code 21 = .ok (.iastore, 1) := by decide +kernel
theorem d_Mod_takeSpace_22 : decode prog_14_method_42_code 22 = .ok (.iinc 1 1, 3) := by decide +kernel
theorem d_Mod_takeSpace_25 : decode prog_14_method_42_code 25 = .ok (.goto (-23), 3) := by decide +kernel
theorem d_Mod_takeSpace_28 : decode prog_14_method_42_code 28 = .ok (.aload_n 0, 1) := by decide +kernel
theorem d_Mod_takeSpace_29 : decode prog_14_method_42_code 29 = .ok (.aload_n 0, 1) := by decide +kernel
theorem d_Mod_takeSpace_30 : decode prog_14_method_42_code 30 = .ok (.getfield 319, 3) := by decide +kernel
theorem d_Mod_takeSpace_33 : decode prog_14_method_42_code 33 = .ok (.putfield 299, 3) := by decide +kernel
theorem d_Mod_takeSpace_36 : decode prog_14_method_42_code 36 = .ok (.return_, 1) := by decide +kernel
theorem d_Mod_takeLine_0 : decode prog_14_method_43_code 0 = .ok (.aload_n 0, 1) := by decide +kernel
theorem d_Mod_takeLine_1 : decode prog_14_method_43_code 1 = .ok (.aload_n 0, 1) := by decide +kernel
theorem d_Mod_takeLine_2 : decode prog_14_method_43_code 2 = .ok (.getfield 13, 3) := by decide +kernel
theorem d_Mod_takeLine_5 : decode prog_14_method_43_code 5 = .ok (.iload_n 1, 1) := by decide +kernel
theorem d_Mod_takeLine_6 : decode prog_14_method_43_code 6 = .ok (.iaload, 1) := by decide +kernel
theorem d_Mod_takeLine_7 : decode prog_14_method_43_code 7 = .ok (.putfield 299, 3) := by decide +kernel
theorem d_Mod_takeLine_10 : decode prog_14_method_43_code 10 = .ok (.iconst 0, 1) := by decide +kernel
theorem d_Mod_takeLine_11 : decode prog_14_method_43_code 11 = .ok (.istore_n 2, 1) := by decide +kernel
theorem d_Mod_takeLine_12 : decode prog_14_method_43_code 12 = .ok (.iload_n 2, 1) := by decide +kernel
theorem d_Mod_takeLine_13 : decode prog_14_method_43_code 13 = .ok (.aload_n 0, 1) := by decide +kernel
theorem d_Mod_takeLine_14 : decode prog_14_method_43_code 14 = .ok (.getfield 299, 3) := by decide +kernel
theorem d_Mod_takeLine_17 : decode prog_14_method_43_code 17 = .ok (.if_icmp .ge 26, 3) := by decide +kernel
theorem d_Mod_takeLine_20 : decode prog_14_method_43_code 20 = .ok (.aload_n 0, 1) := by decide +kernel
theorem d_Mod_takeLine_21 : decode prog_14_method_43_code 21 = .ok (.getfield 121, 3) := by decide +kernel
theorem d_Mod_takeLine_24 : decode prog_14_method_43_code 24 = .ok (.iload_n 2, 1) := by decide +kernel
theorem d_Mod_takeLine_25 : decode prog_14_method_43_code 25 = .ok (.aload_n 0, 1) := by decide +kernel
theorem d_Mod_takeLine_26 : decode prog_14_method_43_code 26 = .ok (.getfield 16, 3) := by decide +kernel
theorem d_Mod_takeLine_29 : decode prog_14_method_43_code 29 = .ok (.bipush 24, 2) := by decide +kernel
theorem d_Mod_takeLine_31 : decode prog_14_method_43_code 31 = .ok (.iload_n 1, 1) := by decide +kernel
theorem d_Mod_takeLine_32 : decode prog_14_method_43_code 32 = .ok (.imul, 1) := by decide +kernel
theorem d_Mod_takeLine_33 : decode prog_14_method_43_code 33 = .ok (.iload_n 2, 1) := by decide +kernel
theorem d_Mod_takeLine_34 : decode prog_14_method_43_code 34 = .ok (.iadd, 1) := by decide +kernel
theorem d_Mod_takeLine_35 : decode prog_14_method_43_code 35 = .ok (.iaload, 1) := by decide +kernel
theorem d_Mod_takeLine_36 : decode prog_14_method_43_code 36 = .ok (.iastore, 1) := by decide +kernel
theorem d_Mod_takeLine_37 : decode prog_14_method_43_code 37 = .ok (.iinc 2 1, 3) := by decide +kernel
theorem d_Mod_takeLine_40 : decode prog_14_method_43_code 40 = .ok (.goto (-28), 3) := by decide +kernel
theorem d_Mod_takeLine_43 : decode prog_14_method_43_code 43 = .ok (.return_, 1) := by decide +kernel
theorem d_Mod_match_0 : decode prog_14_method_44_code 0 = .ok (.iload_n 3, 1) := by decide +kernel
theorem d_Mod_match_1 : decode prog_14_method_44_code 1 = .ok (.iconst 0, 1) := by decide +kernel
theorem d_Mod_match_2 : decode prog_14_method_44_code 2 = .ok (.bipush 7, 2) := by decide +kernel
theorem d_Mod_match_4 : decode prog_14_method_44_code 4 = .ok (.invokestatic 154, 3) := by decide +kernel
theorem d_Mod_match_7 : decode prog_14_method_44_code 7 = .ok (.ifCond .ne 9, 3) := by decide +kernel
theorem d_Mod_match_10 : decode prog_14_method_44_code 10 = .ok (.aload_n 0, 1) := by decide +kernel
theorem d_Mod_match_11 : decode prog_14_method_44_code 11 = .ok (.iconst 1, 1) := by decide +kernel
theorem d_Mod_match_12 : decode prog_14_method_44_code 12 = .ok (.invokevirtual 162, 3) := by decide +kernel
theorem d_Mod_match_15 : decode prog_14_method_44_code 15 = .ok (.ireturn, 1) := by decide +kernel
theorem d_Mod_match_16 : decode prog_14_method_44_code 16 = .ok (.aload_n 0, 1) := by decide +kernel
theorem d_Mod_match_17 : decode prog_14_method_44_code 17 = .ok (.getfield 293, 3) := by decide +kernel
theorem d_Mod_match_20 : decode prog_14_method_44_code 20 = .ok (.ifCond .ne 9, 3) := by decide +kernel
theorem d_Mod_match_23 : decode prog_14_method_44_code 23 = .ok (.aload_n 0, 1) := by decide +kernel
theorem d_Mod_match_24 : decode prog_14_method_44_code 24 = .ok (.iconst 3, 1) := by decide +kernel
theorem d_Mod_match_25 : decode prog_14_method_44_code 25 = .ok (.invokevirtual 162, 3) := by decide +kernel
theorem d_Mod_match_28 : decode prog_14_method_44_code 28 = .ok (.ireturn, 1) := by decide +kernel
theorem d_Mod_match_29 : decode prog_14_method_44_code 29 = .ok (.iload_n 1, 1) := by decide +kernel
theorem d_Mod_match_30 : decode prog_14_method_44_code 30 = .ok (.iconst 0, 1) := by decide +kernel
theorem d_Mod_match_31 : decode prog_14_method_44_code 31 = .ok (.aload_n 0, 1) := by decide +kernel
theorem d_Mod_match_32 : decode prog_14_method_44_code 32 = .ok (.getfield 69, 3) := by decide +kernel
theorem d_Mod_match_35 : decode prog_14_method_44_code 35 = .ok (.aload_n 0, 1) := by decide +kernel
theorem d_Mod_match_36 : decode prog_14_method_44_code 36 = .ok (.getfield 284, 3) := by decide +kernel
theorem d_Mod_match_39 : decode prog_14_method_44_code 39 = .ok (.iaload, 1) := by decide +kernel
theorem d_Mod_match_40 : decode prog_14_method_44_code 40 = .ok (.iconst 1, 1) := by decide +kernel
theorem d_Mod_match_41 : decode prog_14_method_44_code 41 = .ok (.isub, 1) := by decide +kernel
theorem d_Mod_match_42 : decode prog_14_method_44_code 42 = .ok (.invokestatic 154, 3) := by decide +kernel
theorem d_Mod_match_45 : decode prog_14_method_44_code 45 = .ok (.ifCond .eq 17, 3) := by decide +kernel
theorem d_Mod_match_48 : decode prog_14_method_44_code 48 = .ok (.iload_n 2, 1) := by decide +kernel
theorem d_Mod_match_49 : decode prog_14_method_44_code 49 = .ok (.iconst 0, 1) := by decide +kernel
theorem d_Mod_match_50 : decode prog_14_method_44_code 50 = .ok (.aload_n 0, 1) := by decide +kernel
theorem d_Mod_match_51 : decode prog_14_method_44_code 51 = .ok (.getfield 169, 3) := by decide +kernel
theorem d_Mod_match_54 : decode prog_14_method_44_code 54 = .ok (.iconst 1, 1) := by decide +kernel
theorem d_Mod_match_55 : decode prog_14_method_44_code 55 = .ok (.isub, 1) := by decide +kernel
theorem d_Mod_match_56 : decode prog_14_method_44_code 56 = .ok (.invokestatic 154, 3) := by decide +kernel
theorem d_Mod_match_59 : decode prog_14_method_44_code 59 = .ok (.ifCond .ne 9, 3) := by decide +kernel
theorem d_Mod_match_62 : decode prog_14_method_44_code 62 = .ok (.aload_n 0, 1) := by decide +kernel
theorem d_Mod_match_63 : decode prog_14_method_44_code 63 = .ok (.iconst 2, 1) := by decide +kernel
theorem d_Mod_match_64 : decode prog_14_method_44_code 64 = .ok (.invokevirtual 162, 3) := by decide +kernel
theorem d_Mod_match_67 : decode prog_14_method_44_code 67 = .ok (.ireturn, 1) := by decide +kernel
theorem d_Mod_match_68 : decode prog_14_method_44_code 68 = .ok (.bipush 40, 2) := by decide +kernel
theorem d_Mod_match_70 : decode prog_14_method_44_code 70 = .ok (.aload_n 0, 1) := by decide +kernel
theorem d_Mod_match_71 : decode prog_14_method_44_code 71 = .ok (.getfield 284, 3) := by decide +kernel
theorem d_Mod_match_74 : decode prog_14_method_44_code 74 = .ok (.imul, 1) := by decide +kernel
theorem d_Mod_match_75 : decode prog_14_method_44_code 75 = .ok (.iload_n 1, 1) := by decide +kernel
theorem d_Mod_match_76 : decode prog_14_method_44_code 76 = .ok (.iadd, 1) := by decide +kernel
theorem d_Mod_match_77 : decode prog_14_method_44_code 77 = .ok (.istore 4, 2) := by decide +kernel
theorem d_Mod_match_79 : decode prog_14_method_44_code 79 = .ok (.aload_n 0, 1) := by decide +kernel
theorem d_Mod_match_80 : decode prog_14_method_44_code 80 = .ok (.getfield 23, 3) := by decide +kernel
theorem d_Mod_match_83 : decode prog_14_method_44_code 83 = .ok (.iload 4, 2) := by decide +kernel
theorem d_Mod_match_85 : decode prog_14_method_44_code 85 = .ok (.iaload, 1) := by decide +kernel
theorem d_Mod_match_86 : decode prog_14_method_44_code 86 = .ok (.bipush 115, 2) := by decide +kernel
theorem d_Mod_match_88 : decode prog_14_method_44_code 88 = .ok (.if_icmp .eq 9, 3) := by decide +kernel
theorem d_Mod_match_91 : decode prog_14_method_44_code 91 = .ok (.aload_n 0, 1) := by decide +kernel
theorem d_Mod_match_92 : decode prog_14_method_44_code 92 = .ok (.iconst 1, 1) := by decide +kernel
theorem d_Mod_match_93 : decode prog_14_method_44_code 93 = .ok (.invokevirtual 162, 3) := by decide +kernel
theorem d_Mod_match_96 : decode prog_14_method_44_code 96 = .ok (.ireturn, 1) := by decide +kernel
theorem d_Mod_match_97 : decode prog_14_method_44_code 97 = .ok (.aload_n 0, 1) := by decide +kernel
theorem d_Mod_match_98 : decode prog_14_method_44_code 98 = .ok (.iconst 0, 1) := by decide +kernel
theorem d_Mod_match_99 : decode prog_14_method_44_code 99 = .ok (.putfield 151, 3) := by decide +kernel
theorem d_Mod_match_102 : decode prog_14_method_44_code 102 = .ok (.aload_n 0, 1) := by decide +kernel
theorem d_Mod_match_103 : decode prog_14_method_44_code 103 = .ok (.iload_n 2, 1) := by decide +kernel
theorem d_Mod_match_104 : decode prog_14_method_44_code 104 = .ok (.invokevirtual 322, 3) := by decide +kernel
theorem d_Mod_match_107 : decode prog_14_method_44_code 107 = .ok (.aload_n 0, 1) := by decide +kernel
theorem d_Mod_match_108 : decode prog_14_method_44_code 108 = .ok (.aload_n 0, 1) := by decide +kernel
theorem d_Mod_match_109 : decode prog_14_method_44_code 109 = .ok (.getfield 38, 3) := by decide +kernel
theorem d_Mod_match_112 : decode prog_14_method_44_code 112 = .ok (.iload 4, 2) := by decide +kernel
theorem d_Mod_match_114 : decode prog_14_method_44_code 114 = .ok (.iaload, 1) := by decide +kernel
theorem d_Mod_match_115 : decode prog_14_method_44_code 115 = .ok (.iconst 0, 1) := by decide +kernel
theorem d_Mod_match_116 : decode prog_14_method_44_code 116 = .ok (.invokevirtual 325, 3) := by decide +kernel
theorem d_Mod_match_119 : decode prog_14_method_44_code 119 = .ok (.istore 5, 2) := by decide +kernel
theorem d_Mod_match_121 : decode prog_14_method_44_code 121 = .ok (.iload 5, 2) := by decide +kernel
theorem d_Mod_match_123 : decode prog_14_method_44_code 123 = .ok (.ifCond .ne 6, 3) := by decide +kernel
theorem d_Mod_match_126 : decode prog_14_method_44_code 126 = .ok (.bipush (-2), 2) := by decide +kernel
theorem d_Mod_match_128 : decode prog_14_method_44_code 128 = .ok (.ireturn, 1) := by decide +kernel
theorem d_Mod_match_129 : decode prog_14_method_44_code 129 = .ok (.iload_n 3, 1) := by decide +kernel
theorem d_Mod_match_130 : decode prog_14_method_44_code 130 = .ok (.iconst 2, 1) := by decide +kernel
theorem d_Mod_match_131 : decode prog_14_method_44_code 131 = .ok (.if_icmp .ge 24, 3) := by decide +kernel
theorem d_Mod_match_134 : decode prog_14_method_44_code 134 = .ok (.iload_n 3, 1) := by decide +kernel
theorem d_Mod_match_135 : decode prog_14_method_44_code 135 = .ok (.ifCond .ne 10, 3) := by decide +kernel
theorem d_Mod_match_138 : decode prog_14_method_44_code 138 = .ok (.aload_n 0, 1) := by decide +kernel
theorem d_Mod_match_139 : decode prog_14_method_44_code 139 = .ok (.getfield 313, 3) := by decide +kernel
theorem d_Mod_match_142 : decode prog_14_method_44_code 142 = .ok (.goto 12, 3) := by decide +kernel
theorem d_Mod_match_145 : decode prog_14_method_44_code 145 = .ok (.aload_n 0, 1) := by decide +kernel
theorem d_Mod_match_146 : decode prog_14_method_44_code 146 = .ok (.getfield 316, 3) := by decide +kernel
theorem d_Mod_match_149 : decode prog_14_method_44_code 149 = .ok (.aload_n 0, 1) := by decide +kernel
theorem d_Mod_match_150 : decode prog_14_method_44_code 150 = .ok (.getfield 313, 3) := by decide +kernel
theorem d_Mod_match_153 : decode prog_14_method_44_code 153 = .ok (.isub, 1) := by decide +kernel
theorem d_Mod_match_154 : decode prog_14_method_44_code 154 = .ok (.ireturn, 1) := by decide +kernel
theorem d_Mod_match_155 : decode prog_14_method_44_code 155 = .ok (.iload_n 3, 1) := by decide +kernel
theorem d_Mod_match_156 : decode prog_14_method_44_code 156 = .ok (.iconst 1, 1) := by decide +kernel
theorem d_Mod_match_157 : decode prog_14_method_44_code 157 = .ok (.iand, 1) := by decide +kernel
theorem d_Mod_match_158 : decode prog_14_method_44_code 158 = .ok (.ifCond .ne 14, 3) := by decide +kernel
theorem d_Mod_match_161 : decode prog_14_method_44_code 161 = .ok (.aload_n 0, 1) := by decide +kernel
theorem d_Mod_match_162 : decode prog_14_method_44_code 162 = .ok (.getfield 124, 3) := by decide +kernel
theorem d_Mod_match_165 : decode prog_14_method_44_code 165 = .ok (.iload_n 3, 1) := by decide +kernel
theorem d_Mod_match_166 : decode prog_14_method_44_code 166 = .ok (.iconst 2, 1) := by decide +kernel
theorem d_Mod_match_167 : decode prog_14_method_44_code 167 = .ok (.idiv, 1) := by decide +kernel
theorem d_Mod_match_168 : decode prog_14_method_44_code 168 = .ok (.iaload, 1) := by decide +kernel
theorem d_Mod_match_169 : decode prog_14_method_44_code 169 = .ok (.goto 11, 3) := by decide +kernel
theorem d_Mod_match_172 : decode prog_14_method_44_code 172 = .ok (.aload_n 0, 1) := by decide +kernel
theorem d_Mod_match_173 : decode prog_14_method_44_code 173 = .ok (.getfield 127, 3) := by decide +kernel
theorem d_Mod_match_176 : decode prog_14_method_44_code 176 = .ok (.iload_n 3, 1) := by decide +kernel
theorem d_Mod_match_177 : decode prog_14_method_44_code 177 = .ok (.iconst 2, 1) := by decide +kernel
theorem d_Mod_match_178 : decode prog_14_method_44_code 178 = .ok (.idiv, 1) := by decide +kernel
theorem d_Mod_match_179 : decode prog_14_method_44_code 179 = .ok (.iaload, 1) := by decide +kernel
theorem d_Mod_match_180 : decode prog_14_method_44_code 180 = .ok (.ireturn, 1) := by decide +kernel
theorem d_Mod_full_0 : decode prog_14_method_45_code 0 = .ok (.aload_n 0, 1) := by decide +kernel
theorem d_Mod_full_1 : decode prog_14_method_45_code 1 = .ok (.iconst 2, 1) := by decide +kernel
theorem d_Mod_full_2 : decode prog_14_method_45_code 2 = .ok (.putfield 151, 3) := by decide +kernel
theorem d_Mod_full_5 : decode prog_14_method_45_code 5 = .ok (.aload_n 0, 1) := by decide +kernel
theorem d_Mod_full_6 : decode prog_14_method_45_code 6 = .ok (.iconst 1, 1) := by decide +kernel
theorem d_Mod_full_7 : decode prog_14_method_45_code 7 = .ok (.putfield 328, 3) := by decide +kernel
theorem d_Mod_full_10 : decode prog_14_method_45_code 10 = .ok (.iconst 0, 1) := by decide +kernel
theorem d_Mod_full_11 : decode prog_14_method_45_code 11 = .ok (.ireturn, 1) := by decide +kernel
theorem d_Mod_tell_0 : decode prog_14_method_46_code 0 = .ok (.aload_n 0, 1) := by decide +kernel
theorem d_Mod_tell_1 : decode prog_14_method_46_code 1 = .ok (.getfield 331, 3) := by decide +kernel
theorem d_Mod_tell_4 : decode prog_14_method_46_code 4 = .ok (.aload_n 0, 1) := by decide +kernel
theorem d_Mod_tell_5 : decode prog_14_method_46_code 5 = .ok (.getfield 334, 3) := by decide +kernel
theorem d_Mod_tell_8 : decode prog_14_method_46_code 8 = .ok (.iadd, 1) := by decide +kernel
theorem d_Mod_tell_9 : decode prog_14_method_46_code 9 = .ok (.iconst 1, 1) := by decide +kernel
theorem d_Mod_tell_10 : decode prog_14_method_46_code 10 = .ok (.iadd, 1) := by decide +kernel
theorem d_Mod_tell_11 : decode prog_14_method_46_code 11 = .ok (.sipush 600, 3) := by decide +kernel
theorem d_Mod_tell_14 : decode prog_14_method_46_code 14 = .ok (.if_icmp .le 8, 3) := by decide +kernel
theorem d_Mod_tell_17 : decode prog_14_method_46_code 17 = .ok (.aload_n 0, 1) := by decide +kernel
theorem d_Mod_tell_18 : decode prog_14_method_46_code 18 = .ok (.invokevirtual 337, 3) := by decide +kernel
theorem d_Mod_tell_21 : decode prog_14_method_46_code 21 = .ok (.ireturn, 1) := by decide +kernel
theorem d_Mod_tell_22 : decode prog_14_method_46_code 22 = .ok (.iconst 0, 1) := by decide +kernel
theorem d_Mod_tell_23 : decode prog_14_method_46_code 23 = .ok (.istore_n 1, 1) := by decide +kernel
theorem d_Mod_tell_24 : decode prog_14_method_46_code 24 = .ok (.iload_n 1, 1) := by decide +kernel
theorem d_Mod_tell_25 : decode prog_14_method_46_code 25 = .ok (.aload_n 0, 1) := by decide +kernel
theorem d_Mod_tell_26 : decode prog_14_method_46_code 26 = .ok (.getfield 334, 3) := by decide +kernel
theorem d_Mod_tell_29 : decode prog_14_method_46_code 29 = .ok (.if_icmp .ge 26, 3) := by decide +kernel
theorem d_Mod_tell_32 : decode prog_14_method_46_code 32 = .ok (.aload_n 0, 1) := by decide +kernel
theorem d_Mod_tell_33 : decode prog_14_method_46_code 33 = .ok (.getfield 142, 3) := by decide +kernel
theorem d_Mod_tell_36 : decode prog_14_method_46_code 36 = .ok (.aload_n 0, 1) := by decide +kernel
theorem d_Mod_tell_37 : decode prog_14_method_46_code 37 = .ok (.getfield 331, 3) := by decide +kernel
theorem d_Mod_tell_40 : decode prog_14_method_46_code 40 = .ok (.iload_n 1, 1) := by decide +kernel
theorem d_Mod_tell_41 : decode prog_14_method_46_code 41 = .ok (.iadd, 1) := by decide +kernel
theorem d_Mod_tell_42 : decode prog_14_method_46_code 42 = .ok (.aload_n 0, 1) := by decide +kernel
theorem d_Mod_tell_43 : decode prog_14_method_46_code 43 = .ok (.getfield 136, 3) := by decide +kernel
theorem d_Mod_tell_46 : decode prog_14_method_46_code 46 = .ok (.iload_n 1, 1) := by decide +kernel
theorem d_Mod_tell_47 : decode prog_14_method_46_code 47 = .ok (.iaload, 1) := by decide +kernel
theorem d_Mod_tell_48 : decode prog_14_method_46_code 48 = .ok (.iastore, 1) := by decide +kernel
theorem d_Mod_tell_49 : decode prog_14_method_46_code 49 = .ok (.iinc 1 1, 3) := by decide +kernel
theorem d_Mod_tell_52 : decode prog_14_method_46_code 52 = .ok (.goto (-28), 3) := by decide +kernel
theorem d_Mod_tell_55 : decode prog_14_method_46_code 55 = .ok (.aload_n 0, 1) := by decide +kernel
theorem d_Mod_tell_56 : decode prog_14_method_46_code 56 = .ok (.getfield 142, 3) := by decide +kernel
theorem d_Mod_tell_59 : decode prog_14_method_46_code 59 = .ok (.aload_n 0, 1) := by decide +kernel
theorem d_Mod_tell_60 : decode prog_14_method_46_code 60 = .ok (.getfield 331, 3) := by decide +kernel
theorem d_Mod_tell_63 : decode prog_14_method_46_code 63 = .ok (.aload_n 0, 1) := by decide +kernel
theorem d_Mod_tell_64 : decode prog_14_method_46_code 64 = .ok (.getfield 334, 3) := by decide +kernel
theorem d_Mod_tell_67 : decode prog_14_method_46_code 67 = .ok (.iadd, 1) := by decide +kernel
theorem d_Mod_tell_68 : decode prog_14_method_46_code 68 = .ok (.bipush 10, 2) := by decide +kernel
theorem d_Mod_tell_70 : decode prog_14_method_46_code 70 = .ok (.iastore, 1) := by decide +kernel
theorem d_Mod_tell_71 : decode prog_14_method_46_code 71 = .ok (.aload_n 0, 1) := by decide +kernel
theorem d_Mod_tell_72 : decode prog_14_method_46_code 72 = .ok (.dup, 1) := by decide +kernel
theorem d_Mod_tell_73 : decode prog_14_method_46_code 73 = .ok (.getfield 331, 3) := by decide +kernel
theorem d_Mod_tell_76 : decode prog_14_method_46_code 76 = .ok (.aload_n 0, 1) := by decide +kernel
theorem d_Mod_tell_77 : decode prog_14_method_46_code 77 = .ok (.getfield 334, 3) := by decide +kernel
theorem d_Mod_tell_80 : decode prog_14_method_46_code 80 = .ok (.iconst 1, 1) := by decide +kernel
theorem d_Mod_tell_81 : decode prog_14_method_46_code 81 = .ok (.iadd, 1) := by decide +kernel
theorem d_Mod_tell_82 : decode prog_14_method_46_code 82 = .ok (.iadd, 1) := by decide +kernel
theorem d_Mod_tell_83 : decode prog_14_method_46_code 83 = .ok (.putfield 331, 3) := by decide +kernel
theorem d_Mod_tell_86 : decode prog_14_method_46_code 86 = .ok (.iconst 1, 1) := by decide +kernel
theorem d_Mod_tell_87 : decode prog_14_method_46_code 87 = .ok (.ireturn, 1) := by decide +kernel
theorem d_Mod_tellSpace_0 : decode prog_14_method_47_code 0 = .ok (.aload_n 0, 1) := by decide +kernel
theorem d_Mod_tellSpace_1 : decode prog_14_method_47_code 1 = .ok (.iconst 0, 1) := by decide +kernel
theorem d_Mod_tellSpace_2 : decode prog_14_method_47_code 2 = .ok (.putfield 334, 3) := by decide +kernel
theorem d_Mod_tellSpace_5 : decode prog_14_method_47_code 5 = .ok (.iconst 1, 1) := by decide +kernel
theorem d_Mod_tellSpace_6 : decode prog_14_method_47_code 6 = .ok (.istore_n 2, 1) := by decide +kernel
theorem d_Mod_tellSpace_7 : decode prog_14_method_47_code 7 = .ok (.iconst 0, 1) := by decide +kernel
theorem d_Mod_tellSpace_8 : decode prog_14_method_47_code 8 = .ok (.istore_n 3, 1) := by decide +kernel
theorem d_Mod_tellSpace_9 : decode prog_14_method_47_code 9 = .ok (.iload_n 3, 1) := by decide +kernel
theorem d_Mod_tellSpace_10 : decode prog_14_method_47_code 10 = .ok (.aload_n 0, 1) := by decide +kernel
theorem d_Mod_tellSpace_11 : decode prog_14_method_47_code 11 = .ok (.getfield 319, 3) := by decide +kernel
theorem d_Mod_tellSpace_14 : decode prog_14_method_47_code 14 = .ok (.if_icmp .ge 60, 3) := by decide +kernel
theorem d_Mod_tellSpace_17 : decode prog_14_method_47_code 17 = .ok (.iload_n 2, 1) := by decide +kernel
theorem d_Mod_tellSpace_18 : decode prog_14_method_47_code 18 = .ok (.ifCond .eq 56, 3) := by decide +kernel
theorem d_Mod_tellSpace_21 : decode prog_14_method_47_code 21 = .ok (.iload_n 1, 1) := by decide +kernel
theorem d_Mod_tellSpace_22 : decode prog_14_method_47_code 22 = .ok (.ifCond .eq 14, 3) := by decide +kernel
theorem d_Mod_tellSpace_25 : decode prog_14_method_47_code 25 = .ok (.aload_n 0, 1) := by decide +kernel
theorem d_Mod_tellSpace_26 : decode prog_14_method_47_code 26 = .ok (.getfield 130, 3) := by decide +kernel
theorem d_Mod_tellSpace_29 : decode prog_14_method_47_code 29 = .ok (.iload_n 3, 1) := by decide +kernel
theorem d_Mod_tellSpace_30 : decode prog_14_method_47_code 30 = .ok (.iaload, 1) := by decide +kernel
theorem d_Mod_tellSpace_31 : decode prog_14_method_47_code 31 = .ok (.bipush 10, 2) := by decide +kernel
theorem d_Mod_tellSpace_33 : decode prog_14_method_47_code 33 = .ok (.if_icmp .eq 7, 3) := by decide +kernel
theorem d_Mod_tellSpace_36 : decode prog_14_method_47_code 36 = .ok (.iconst 1, 1) := by decide +kernel
theorem d_Mod_tellSpace_37 : decode prog_14_method_47_code 37 = .ok (.goto 4, 3) := by decide +kernel
theorem d_Mod_tellSpace_40 : decode prog_14_method_47_code 40 = .ok (.iconst 0, 1) := by decide +kernel
theorem d_Mod_tellSpace_41 : decode prog_14_method_47_code 41 = .ok (.istore_n 2, 1) := by decide +kernel
theorem d_Mod_tellSpace_42 : decode prog_14_method_47_code 42 = .ok (.iload_n 2, 1) := by decide +kernel
theorem d_Mod_tellSpace_43 : decode prog_14_method_47_code 43 = .ok (.ifCond .eq 25, 3) := by decide +kernel
theorem d_Mod_tellSpace_46 : decode prog_14_method_47_code 46 = .ok (.aload_n 0, 1) := by decide +kernel
theorem d_Mod_tellSpace_47 : decode prog_14_method_47_code 47 = .ok (.getfield 136, 3) := by decide +kernel
theorem d_Mod_tellSpace_50 : decode prog_14_method_47_code 50 = .ok (.aload_n 0, 1) := by decide +kernel
theorem d_Mod_tellSpace_51 : decode prog_14_method_47_code 51 = .ok (.dup, 1) := by decide +kernel
theorem d_Mod_tellSpace_52 : decode prog_14_method_47_code 52 = .ok (.getfield 334, 3) := by decide +kernel
theorem d_Mod_tellSpace_55 : decode prog_14_method_47_code 55 = .ok (.dup_x1, 1) := by decide +kernel
theorem d_Mod_tellSpace_56 : decode prog_14_method_47_code 56 = .ok (.iconst 1, 1) := by decide +kernel
theorem d_Mod_tellSpace_57 : decode prog_14_method_47_code 57 = .ok (.iadd, 1) := by decide +kernel
theorem d_Mod_tellSpace_58 : decode prog_14_method_47_code 58 = .ok (.putfield 334, 3) := by decide +kernel
theorem d_Mod_tellSpace_61 : decode prog_14_method_47_code 61 = .ok (.aload_n 0, 1) := by decide +kernel
theorem d_Mod_tellSpace_62 : decode prog_14_method_47_code 62 = .ok (.getfield 130, 3) := by decide +kernel
theorem d_Mod_tellSpace_65 : decode prog_14_method_47_code 65 = .ok (.iload_n 3, 1) := by decide +kernel
theorem d_Mod_tellSpace_66 : decode prog_14_method_47_code 66 = .ok (.iaload, 1) := by decide +kernel
theorem d_Mod_tellSpace_67 : decode prog_14_method_47_code 67 = .ok (.iastore, 1) := by decide +kernel
theorem d_Mod_tellSpace_68 : decode prog_14_method_47_code 68 = .ok (.iinc 3 1, 3) := by decide +kernel
theorem d_Mod_tellSpace_71 : decode prog_14_method_47_code 71 = .ok (.goto (-62), 3) := by decide +kernel
theorem d_Mod_tellSpace_74 : decode prog_14_method_47_code 74 = .ok (.aload_n 0, 1) := by decide +kernel
theorem d_Mod_tellSpace_75 : decode prog_14_method_47_code 75 = .ok (.invokevirtual 340, 3) := by decide +kernel
theorem d_Mod_tellSpace_78 : decode prog_14_method_47_code 78 = .ok (.ireturn, 1) := by decide +kernel
theorem d_Mod_tellText_0 : decode prog_14_method_48_code 0 = .ok (.aload_n 0, 1) := by decide +kernel
theorem d_Mod_tellText_1 : decode prog_14_method_48_code 1 = .ok (.iconst 0, 1) := by decide +kernel
theorem d_Mod_tellText_2 : decode prog_14_method_48_code 2 = .ok (.putfield 334, 3) := by decide +kernel
theorem d_Mod_tellText_5 : decode prog_14_method_48_code 5 = .ok (.aload_n 0, 1) := by decide +kernel
theorem d_Mod_tellText_6 : decode prog_14_method_48_code 6 = .ok (.getfield 41, 3) := by decide +kernel
theorem d_Mod_tellText_9 : decode prog_14_method_48_code 9 = .ok (.iload_n 1, 1) := by decide +kernel
theorem d_Mod_tellText_10 : decode prog_14_method_48_code 10 = .ok (.iaload, 1) := by decide +kernel
theorem d_Mod_tellText_11 : decode prog_14_method_48_code 11 = .ok (.istore_n 2, 1) := by decide +kernel
theorem d_Mod_tellText_12 : decode prog_14_method_48_code 12 = .ok (.iload_n 2, 1) := by decide +kernel
theorem d_Mod_tellText_13 : decode prog_14_method_48_code 13 = .ok (.aload_n 0, 1) := by decide +kernel
theorem d_Mod_tellText_14 : decode prog_14_method_48_code 14 = .ok (.getfield 44, 3) := by decide +kernel
theorem d_Mod_tellText_17 : decode prog_14_method_48_code 17 = .ok (.iload_n 1, 1) := by decide +kernel
theorem d_Mod_tellText_18 : decode prog_14_method_48_code 18 = .ok (.iaload, 1) := by decide +kernel
theorem d_Mod_tellText_19 : decode prog_14_method_48_code 19 = .ok (.if_icmp .ge 31, 3) := by decide +kernel
theorem d_Mod_tellText_22 : decode prog_14_method_48_code 22 = .ok (.aload_n 0, 1) := by decide +kernel
theorem d_Mod_tellText_23 : decode prog_14_method_48_code 23 = .ok (.getfield 136, 3) := by decide +kernel
theorem d_Mod_tellText_26 : decode prog_14_method_48_code 26 = .ok (.aload_n 0, 1) := by decide +kernel
theorem d_Mod_tellText_27 : decode prog_14_method_48_code 27 = .ok (.dup, 1) := by decide +kernel
theorem d_Mod_tellText_28 : decode prog_14_method_48_code 28 = .ok (.getfield 334, 3) := by decide +kernel
theorem d_Mod_tellText_31 : decode prog_14_method_48_code 31 = .ok (.dup_x1, 1) := by decide +kernel
theorem d_Mod_tellText_32 : decode prog_14_method_48_code 32 = .ok (.iconst 1, 1) := by decide +kernel
theorem d_Mod_tellText_33 : decode prog_14_method_48_code 33 = .ok (.iadd, 1) := by decide +kernel
theorem d_Mod_tellText_34 : decode prog_14_method_48_code 34 = .ok (.putfield 334, 3) := by decide +kernel
theorem d_Mod_tellText_37 : decode prog_14_method_48_code 37 = .ok (.aload_n 0, 1) := by decide +kernel
theorem d_Mod_tellText_38 : decode prog_14_method_48_code 38 = .ok (.getfield 96, 3) := by decide +kernel
theorem d_Mod_tellText_41 : decode prog_14_method_48_code 41 = .ok (.iload_n 2, 1) := by decide +kernel
theorem d_Mod_tellText_42 : decode prog_14_method_48_code 42 = .ok (.iaload, 1) := by decide +kernel
theorem d_Mod_tellText_43 : decode prog_14_method_48_code 43 = .ok (.iastore, 1) := by decide +kernel
theorem d_Mod_tellText_44 : decode prog_14_method_48_code 44 = .ok (.iinc 2 1, 3) := by decide +kernel
theorem d_Mod_tellText_47 : decode prog_14_method_48_code 47 = .ok (.goto (-35), 3) := by decide +kernel
theorem d_Mod_tellText_50 : decode prog_14_method_48_code 50 = .ok (.aload_n 0, 1) := by decide +kernel
theorem d_Mod_tellText_51 : decode prog_14_method_48_code 51 = .ok (.invokevirtual 340, 3) := by decide +kernel
theorem d_Mod_tellText_54 : decode prog_14_method_48_code 54 = .ok (.ireturn, 1) := by decide +kernel
theorem d_Mod_tellAppended_0 : decode prog_14_method_49_code 0 = .ok (.iconst 0, 1) := by decide +kernel
theorem d_Mod_tellAppended_1 : decode prog_14_method_49_code 1 = .ok (.istore_n 1, 1) := by decide +kernel
theorem d_Mod_tellAppended_2 : decode prog_14_method_49_code 2 = .ok (.iconst 1, 1) := by decide +kernel
theorem d_Mod_tellAppended_3 : decode prog_14_method_49_code 3 = .ok (.istore_n 2, 1) := by decide +kernel
theorem d_Mod_tellAppended_4 : decode prog_14_method_49_code 4 = .ok (.iload_n 1, 1) := by decide +kernel
theorem d_Mod_tellAppended_5 : decode prog_14_method_49_code 5 = .ok (.aload_n 0, 1) := by decide +kernel
theorem d_Mod_tellAppended_6 : decode prog_14_method_49_code 6 = .ok (.getfield 343, 3) := by decide +kernel
theorem d_Mod_tellAppended_9 : decode prog_14_method_49_code 9 = .ok (.if_icmp .ge 62, 3) := by decide +kernel
theorem d_Mod_tellAppended_12 : decode prog_14_method_49_code 12 = .ok (.iload_n 2, 1) := by decide +kernel
theorem d_Mod_tellAppended_13 : decode prog_14_method_49_code 13 = .ok (.ifCond .eq 58, 3) := by decide +kernel
theorem d_Mod_tellAppended_16 : decode prog_14_method_49_code 16 = .ok (.aload_n 0, 1) := by decide +kernel
theorem d_Mod_tellAppended_17 : decode prog_14_method_49_code 17 = .ok (.iconst 0, 1) := by decide +kernel
theorem d_Mod_tellAppended_18 : decode prog_14_method_49_code 18 = .ok (.putfield 334, 3) := by decide +kernel
theorem d_Mod_tellAppended_21 : decode prog_14_method_49_code 21 = .ok (.aload_n 0, 1) := by decide +kernel
theorem d_Mod_tellAppended_22 : decode prog_14_method_49_code 22 = .ok (.getfield 139, 3) := by decide +kernel
theorem d_Mod_tellAppended_25 : decode prog_14_method_49_code 25 = .ok (.iload_n 1, 1) := by decide +kernel
theorem d_Mod_tellAppended_26 : decode prog_14_method_49_code 26 = .ok (.iaload, 1) := by decide +kernel
theorem d_Mod_tellAppended_27 : decode prog_14_method_49_code 27 = .ok (.bipush 10, 2) := by decide +kernel
theorem d_Mod_tellAppended_29 : decode prog_14_method_49_code 29 = .ok (.if_icmp .eq 31, 3) := by decide +kernel
theorem d_Mod_tellAppended_32 : decode prog_14_method_49_code 32 = .ok (.aload_n 0, 1) := by decide +kernel
theorem d_Mod_tellAppended_33 : decode prog_14_method_49_code 33 = .ok (.getfield 136, 3) := by decide +kernel
theorem d_Mod_tellAppended_36 : decode prog_14_method_49_code 36 = .ok (.aload_n 0, 1) := by decide +kernel
theorem d_Mod_tellAppended_37 : decode prog_14_method_49_code 37 = .ok (.dup, 1) := by decide +kernel
theorem d_Mod_tellAppended_38 : decode prog_14_method_49_code 38 = .ok (.getfield 334, 3) := by decide +kernel
theorem d_Mod_tellAppended_41 : decode prog_14_method_49_code 41 = .ok (.dup_x1, 1) := by decide +kernel
theorem d_Mod_tellAppended_42 : decode prog_14_method_49_code 42 = .ok (.iconst 1, 1) := by decide +kernel
theorem d_Mod_tellAppended_43 : decode prog_14_method_49_code 43 = .ok (.iadd, 1) := by decide +kernel
theorem d_Mod_tellAppended_44 : decode prog_14_method_49_code 44 = .ok (.putfield 334, 3) := by decide +kernel
theorem d_Mod_tellAppended_47 : decode prog_14_method_49_code 47 = .ok (.aload_n 0, 1) := by decide +kernel
theorem d_Mod_tellAppended_48 : decode prog_14_method_49_code 48 = .ok (.getfield 139, 3) := by decide +kernel
theorem d_Mod_tellAppended_51 : decode prog_14_method_49_code 51 = .ok (.iload_n 1, 1) := by decide +kernel
theorem d_Mod_tellAppended_52 : decode prog_14_method_49_code 52 = .ok (.iinc 1 1, 3) := by decide +kernel
theorem d_Mod_tellAppended_55 : decode prog_14_method_49_code 55 = .ok (.iaload, 1) := by decide +kernel
theorem d_Mod_tellAppended_56 : decode prog_14_method_49_code 56 = .ok (.iastore, 1) := by decide +kernel
theorem d_Mod_tellAppended_57 : decode prog_14_method_49_code 57 = .ok (.goto (-36), 3) := by decide +kernel
theorem d_Mod_tellAppended_60 : decode prog_14_method_49_code 60 = .ok (.iinc 1 1, 3) := by decide +kernel
theorem d_Mod_tellAppended_63 : decode prog_14_method_49_code 63 = .ok (.aload_n 0, 1) := by decide +kernel
theorem d_Mod_tellAppended_64 : decode prog_14_method_49_code 64 = .ok (.invokevirtual 340, 3) := by decide +kernel
theorem d_Mod_tellAppended_67 : decode prog_14_method_49_code 67 = .ok (.istore_n 2, 1) := by decide +kernel
theorem d_Mod_tellAppended_68 : decode prog_14_method_49_code 68 = .ok (.goto (-64), 3) := by decide +kernel
theorem d_Mod_tellAppended_71 : decode prog_14_method_49_code 71 = .ok (.aload_n 0, 1) := by decide +kernel
theorem d_Mod_tellAppended_72 : decode prog_14_method_49_code 72 = .ok (.iconst 0, 1) := by decide +kernel
theorem d_Mod_tellAppended_73 : decode prog_14_method_49_code 73 = .ok (.putfield 343, 3) := by decide +kernel
theorem d_Mod_tellAppended_76 : decode prog_14_method_49_code 76 = .ok (.iload_n 2, 1) := by decide +kernel
theorem d_Mod_tellAppended_77 : decode prog_14_method_49_code 77 = .ok (.ireturn, 1) := by decide +kernel
theorem d_Mod_tellNumber_0 : decode prog_14_method_50_code 0 = .ok (.aload_n 0, 1) := by decide +kernel
theorem d_Mod_tellNumber_1 : decode prog_14_method_50_code 1 = .ok (.iconst 0, 1) := by decide +kernel
theorem d_Mod_tellNumber_2 : decode prog_14_method_50_code 2 = .ok (.putfield 334, 3) := by decide +kernel
theorem d_Mod_tellNumber_5 : decode prog_14_method_50_code 5 = .ok (.aload_n 0, 1) := by decide +kernel
theorem d_Mod_tellNumber_6 : decode prog_14_method_50_code 6 = .ok (.getfield 346, 3) := by decide +kernel
theorem d_Mod_tellNumber_9 : decode prog_14_method_50_code 9 = .ok (.bipush 9, 2) := by decide +kernel
theorem d_Mod_tellNumber_11 : decode prog_14_method_50_code 11 = .ok (.if_icmp .le 29, 3) := by decide +kernel
theorem d_Mod_tellNumber_14 : decode prog_14_method_50_code 14 = .ok (.aload_n 0, 1) := by decide +kernel
theorem d_Mod_tellNumber_15 : decode prog_14_method_50_code 15 = .ok (.getfield 136, 3) := by decide +kernel
theorem d_Mod_tellNumber_18 : decode prog_14_method_50_code 18 = .ok (.aload_n 0, 1) := by decide +kernel
theorem d_Mod_tellNumber_19 : decode prog_14_method_50_code 19 = .ok (.dup, 1) := by decide +kernel
theorem d_Mod_tellNumber_20 : decode prog_14_method_50_code 20 = .ok (.getfield 334, 3) := by decide +kernel
theorem d_Mod_tellNumber_23 : decode prog_14_method_50_code 23 = .ok (.dup_x1, 1) := by decide +kernel
theorem d_Mod_tellNumber_24 : decode prog_14_method_50_code 24 = .ok (.iconst 1, 1) := by decide +kernel
theorem d_Mod_tellNumber_25 : decode prog_14_method_50_code 25 = .ok (.iadd, 1) := by decide +kernel
theorem d_Mod_tellNumber_26 : decode prog_14_method_50_code 26 = .ok (.putfield 334, 3) := by decide +kernel
theorem d_Mod_tellNumber_29 : decode prog_14_method_50_code 29 = .ok (.bipush 48, 2) := by decide +kernel
theorem d_Mod_tellNumber_31 : decode prog_14_method_50_code 31 = .ok (.aload_n 0, 1) := by decide +kernel
theorem d_Mod_tellNumber_32 : decode prog_14_method_50_code 32 = .ok (.getfield 346, 3) := by decide +kernel
theorem d_Mod_tellNumber_35 : decode prog_14_method_50_code 35 = .ok (.bipush 10, 2) := by decide +kernel
theorem d_Mod_tellNumber_37 : decode prog_14_method_50_code 37 = .ok (.idiv, 1) := by decide +kernel
theorem d_Mod_tellNumber_38 : decode prog_14_method_50_code 38 = .ok (.iadd, 1) := by decide +kernel
theorem d_Mod_tellNumber_39 : decode prog_14_method_50_code 39 = .ok (.iastore, 1) := by decide +kernel
theorem d_Mod_tellNumber_40 : decode prog_14_method_50_code 40 = .ok (.aload_n 0, 1) := by decide +kernel
theorem d_Mod_tellNumber_41 : decode prog_14_method_50_code 41 = .ok (.getfield 136, 3) := by decide +kernel
theorem d_Mod_tellNumber_44 : decode prog_14_method_50_code 44 = .ok (.aload_n 0, 1) := by decide +kernel
theorem d_Mod_tellNumber_45 : decode prog_14_method_50_code 45 = .ok (.dup, 1) := by decide +kernel
theorem d_Mod_tellNumber_46 : decode prog_14_method_50_code 46 = .ok (.getfield 334, 3) := by decide +kernel
theorem d_Mod_tellNumber_49 : decode prog_14_method_50_code 49 = .ok (.dup_x1, 1) := by decide +kernel
theorem d_Mod_tellNumber_50 : decode prog_14_method_50_code 50 = .ok (.iconst 1, 1) := by decide +kernel
theorem d_Mod_tellNumber_51 : decode prog_14_method_50_code 51 = .ok (.iadd, 1) := by decide +kernel
theorem d_Mod_tellNumber_52 : decode prog_14_method_50_code 52 = .ok (.putfield 334, 3) := by decide +kernel
theorem d_Mod_tellNumber_55 : decode prog_14_method_50_code 55 = .ok (.bipush 48, 2) := by decide +kernel
theorem d_Mod_tellNumber_57 : decode prog_14_method_50_code 57 = .ok (.aload_n 0, 1) := by decide +kernel
theorem d_Mod_tellNumber_58 : decode prog_14_method_50_code 58 = .ok (.getfield 346, 3) := by decide +kernel
theorem d_Mod_tellNumber_61 : decode prog_14_method_50_code 61 = .ok (.bipush 10, 2) := by decide +kernel
theorem d_Mod_tellNumber_63 : decode prog_14_method_50_code 63 = .ok (.irem, 1) := by decide +kernel
theorem d_Mod_tellNumber_64 : decode prog_14_method_50_code 64 = .ok (.iadd, 1) := by decide +kernel
theorem d_Mod_tellNumber_65 : decode prog_14_method_50_code 65 = .ok (.iastore, 1) := by decide +kernel
theorem d_Mod_tellNumber_66 : decode prog_14_method_50_code 66 = .ok (.aload_n 0, 1) := by decide +kernel
theorem d_Mod_tellNumber_67 : decode prog_14_method_50_code 67 = .ok (.invokevirtual 340, 3) := by decide +kernel
theorem d_Mod_tellNumber_70 : decode prog_14_method_50_code 70 = .ok (.ireturn, 1) := by decide +kernel
theorem d_Mod_fitsAddress_0 : decode prog_14_method_51_code 0 = .ok (.iload_n 1, 1) := by decide +kernel
theorem d_Mod_fitsAddress_1 : decode prog_14_method_51_code 1 = .ok (.iconst 1, 1) := by decide +kernel
theorem d_Mod_fitsAddress_2 : decode prog_14_method_51_code 2 = .ok (.if_icmp .ne 17, 3) := by decide +kernel
theorem d_Mod_fitsAddress_5 : decode prog_14_method_51_code 5 = .ok (.aload_n 0, 1) := by decide +kernel
theorem d_Mod_fitsAddress_6 : decode prog_14_method_51_code 6 = .ok (.getfield 346, 3) := by decide +kernel
theorem d_Mod_fitsAddress_9 : decode prog_14_method_51_code 9 = .ok (.iload_n 2, 1) := by decide +kernel
theorem d_Mod_fitsAddress_10 : decode prog_14_method_51_code 10 = .ok (.if_icmp .ne 7, 3) := by decide +kernel
theorem d_Mod_fitsAddress_13 : decode prog_14_method_51_code 13 = .ok (.iconst 1, 1) := by decide +kernel
theorem d_Mod_fitsAddress_14 : decode prog_14_method_51_code 14 = .ok (.goto 4, 3) := by decide +kernel
theorem d_Mod_fitsAddress_17 : decode prog_14_method_51_code 17 = .ok (.iconst 0, 1) := by decide +kernel
theorem d_Mod_fitsAddress_18 : decode prog_14_method_51_code 18 = .ok (.ireturn, 1) := by decide +kernel
theorem d_Mod_fitsAddress_19 : decode prog_14_method_51_code 19 = .ok (.iload_n 1, 1) := by decide +kernel
theorem d_Mod_fitsAddress_20 : decode prog_14_method_51_code 20 = .ok (.iconst 2, 1) := by decide +kernel
theorem d_Mod_fitsAddress_21 : decode prog_14_method_51_code 21 = .ok (.if_icmp .ne 20, 3) := by decide +kernel
theorem d_Mod_fitsAddress_24 : decode prog_14_method_51_code 24 = .ok (.aload_n 0, 1) := by decide +kernel
theorem d_Mod_fitsAddress_25 : decode prog_14_method_51_code 25 = .ok (.getfield 346, 3) := by decide +kernel
theorem d_Mod_fitsAddress_28 : decode prog_14_method_51_code 28 = .ok (.aload_n 0, 1) := by decide +kernel
theorem d_Mod_fitsAddress_29 : decode prog_14_method_51_code 29 = .ok (.getfield 169, 3) := by decide +kernel
theorem d_Mod_fitsAddress_32 : decode prog_14_method_51_code 32 = .ok (.if_icmp .ne 7, 3) := by decide +kernel
theorem d_Mod_fitsAddress_35 : decode prog_14_method_51_code 35 = .ok (.iconst 1, 1) := by decide +kernel
theorem d_Mod_fitsAddress_36 : decode prog_14_method_51_code 36 = .ok (.goto 4, 3) := by decide +kernel
theorem d_Mod_fitsAddress_39 : decode prog_14_method_51_code 39 = .ok (.iconst 0, 1) := by decide +kernel
theorem d_Mod_fitsAddress_40 : decode prog_14_method_51_code 40 = .ok (.ireturn, 1) := by decide +kernel
theorem d_Mod_fitsAddress_41 : decode prog_14_method_51_code 41 = .ok (.aload_n 0, 1) := by decide +kernel
theorem d_Mod_fitsAddress_42 : decode prog_14_method_51_code 42 = .ok (.invokevirtual 349, 3) := by decide +kernel
theorem d_Mod_fitsAddress_45 : decode prog_14_method_51_code 45 = .ok (.aload_n 0, 1) := by decide +kernel
theorem d_Mod_fitsAddress_46 : decode prog_14_method_51_code 46 = .ok (.iload_n 2, 1) := by decide +kernel
theorem d_Mod_fitsAddress_47 : decode prog_14_method_51_code 47 = .ok (.iconst 0, 1) := by decide +kernel
theorem d_Mod_fitsAddress_48 : decode prog_14_method_51_code 48 = .ok (.invokevirtual 325, 3) := by decide +kernel
theorem d_Mod_fitsAddress_51 : decode prog_14_method_51_code 51 = .ok (.ireturn, 1) := by decide +kernel
theorem d_Mod_isDone_0 : decode prog_14_method_52_code 0 = .ok (.iload_n 1, 1) := by decide +kernel
theorem d_Mod_isDone_1 : decode prog_14_method_52_code 1 = .ok (.bipush 40, 2) := by decide +kernel
theorem d_Mod_isDone_3 : decode prog_14_method_52_code 3 = .ok (.aload_n 0, 1) := by decide +kernel
theorem d_Mod_isDone_4 : decode prog_14_method_52_code 4 = .ok (.getfield 284, 3) := by decide +kernel
theorem d_Mod_isDone_7 : decode prog_14_method_52_code 7 = .ok (.imul, 1) := by decide +kernel
theorem d_Mod_isDone_8 : decode prog_14_method_52_code 8 = .ok (.isub, 1) := by decide +kernel
theorem d_Mod_isDone_9 : decode prog_14_method_52_code 9 = .ok (.istore_n 2, 1) := by decide +kernel
theorem d_Mod_isDone_10 : decode prog_14_method_52_code 10 = .ok (.aload_n 0, 1) := by decide +kernel
theorem d_Mod_isDone_11 : decode prog_14_method_52_code 11 = .ok (.iconst 1, 1) := by decide +kernel
theorem d_Mod_isDone_12 : decode prog_14_method_52_code 12 = .ok (.putfield 352, 3) := by decide +kernel
theorem d_Mod_isDone_15 : decode prog_14_method_52_code 15 = .ok (.aload_n 0, 1) := by decide +kernel
theorem d_Mod_isDone_16 : decode prog_14_method_52_code 16 = .ok (.getfield 26, 3) := by decide +kernel
theorem d_Mod_isDone_19 : decode prog_14_method_52_code 19 = .ok (.iload_n 1, 1) := by decide +kernel
theorem d_Mod_isDone_20 : decode prog_14_method_52_code 20 = .ok (.iaload, 1) := by decide +kernel
theorem d_Mod_isDone_21 : decode prog_14_method_52_code 21 = .ok (.ifCond .ne 18, 3) := by decide +kernel
theorem d_Mod_isDone_24 : decode prog_14_method_52_code 24 = .ok (.aload_n 0, 1) := by decide +kernel
theorem d_Mod_isDone_25 : decode prog_14_method_52_code 25 = .ok (.getfield 59, 3) := by decide +kernel
theorem d_Mod_isDone_28 : decode prog_14_method_52_code 28 = .ok (.iload_n 1, 1) := by decide +kernel
theorem d_Mod_isDone_29 : decode prog_14_method_52_code 29 = .ok (.baload, 1) := by decide +kernel
theorem d_Mod_isDone_30 : decode prog_14_method_52_code 30 = .ok (.ifCond .ne 7, 3) := by decide +kernel
theorem d_Mod_isDone_33 : decode prog_14_method_52_code 33 = .ok (.iconst 1, 1) := by decide +kernel
theorem d_Mod_isDone_34 : decode prog_14_method_52_code 34 = .ok (.goto 4, 3) := by decide +kernel
theorem d_Mod_isDone_37 : decode prog_14_method_52_code 37 = .ok (.iconst 0, 1) := by decide +kernel
theorem d_Mod_isDone_38 : decode prog_14_method_52_code 38 = .ok (.ireturn, 1) := by decide +kernel
theorem d_Mod_isDone_39 : decode prog_14_method_52_code 39 = .ok (.aload_n 0, 1) := by decide +kernel
theorem d_Mod_isDone_40 : decode prog_14_method_52_code 40 = .ok (.getfield 32, 3) := by decide +kernel
theorem d_Mod_isDone_43 : decode prog_14_method_52_code 43 = .ok (.iload_n 1, 1) := by decide +kernel
theorem d_Mod_isDone_44 : decode prog_14_method_52_code 44 = .ok (.iaload, 1) := by decide +kernel
theorem d_Mod_isDone_45 : decode prog_14_method_52_code 45 = .ok (.ifCond .ne 34, 3) := by decide +kernel
theorem d_Mod_isDone_48 : decode prog_14_method_52_code 48 = .ok (.aload_n 0, 1) := by decide +kernel
theorem d_Mod_isDone_49 : decode prog_14_method_52_code 49 = .ok (.aload_n 0, 1) := by decide +kernel
theorem d_Mod_isDone_50 : decode prog_14_method_52_code 50 = .ok (.getfield 26, 3) := by decide +kernel
theorem d_Mod_isDone_53 : decode prog_14_method_52_code 53 = .ok (.iload_n 1, 1) := by decide +kernel
theorem d_Mod_isDone_54 : decode prog_14_method_52_code 54 = .ok (.iaload, 1) := by decide +kernel
theorem d_Mod_isDone_55 : decode prog_14_method_52_code 55 = .ok (.aload_n 0, 1) := by decide +kernel
theorem d_Mod_isDone_56 : decode prog_14_method_52_code 56 = .ok (.getfield 29, 3) := by decide +kernel
theorem d_Mod_isDone_59 : decode prog_14_method_52_code 59 = .ok (.iload_n 1, 1) := by decide +kernel
theorem d_Mod_isDone_60 : decode prog_14_method_52_code 60 = .ok (.iaload, 1) := by decide +kernel
theorem d_Mod_isDone_61 : decode prog_14_method_52_code 61 = .ok (.invokevirtual 355, 3) := by decide +kernel
theorem d_Mod_isDone_64 : decode prog_14_method_52_code 64 = .ok (.aload_n 0, 1) := by decide +kernel
theorem d_Mod_isDone_65 : decode prog_14_method_52_code 65 = .ok (.getfield 59, 3) := by decide +kernel
theorem d_Mod_isDone_68 : decode prog_14_method_52_code 68 = .ok (.iload_n 1, 1) := by decide +kernel
theorem d_Mod_isDone_69 : decode prog_14_method_52_code 69 = .ok (.baload, 1) := by decide +kernel
theorem d_Mod_isDone_70 : decode prog_14_method_52_code 70 = .ok (.if_icmp .eq 7, 3) := by decide +kernel
theorem d_Mod_isDone_73 : decode prog_14_method_52_code 73 = .ok (.iconst 1, 1) := by decide +kernel
theorem d_Mod_isDone_74 : decode prog_14_method_52_code 74 = .ok (.goto 4, 3) := by decide +kernel
theorem d_Mod_isDone_77 : decode prog_14_method_52_code 77 = .ok (.iconst 0, 1) := by decide +kernel
theorem d_Mod_isDone_78 : decode prog_14_method_52_code 78 = .ok (.ireturn, 1) := by decide +kernel
theorem d_Mod_isDone_79 : decode prog_14_method_52_code 79 = .ok (.aload_n 0, 1) := by decide +kernel
theorem d_Mod_isDone_80 : decode prog_14_method_52_code 80 = .ok (.getfield 148, 3) := by decide +kernel
theorem d_Mod_isDone_83 : decode prog_14_method_52_code 83 = .ok (.iload_n 2, 1) := by decide +kernel
theorem d_Mod_isDone_84 : decode prog_14_method_52_code 84 = .ok (.baload, 1) := by decide +kernel
theorem d_Mod_isDone_85 : decode prog_14_method_52_code 85 = .ok (.ifCond .eq 86, 3) := by decide +kernel
theorem d_Mod_isDone_88 : decode prog_14_method_52_code 88 = .ok (.aload_n 0, 1) := by decide +kernel
theorem d_Mod_isDone_89 : decode prog_14_method_52_code 89 = .ok (.getfield 32, 3) := by decide +kernel
theorem d_Mod_isDone_92 : decode prog_14_method_52_code 92 = .ok (.iload_n 1, 1) := by decide +kernel
theorem d_Mod_isDone_93 : decode prog_14_method_52_code 93 = .ok (.iaload, 1) := by decide +kernel
theorem d_Mod_isDone_94 : decode prog_14_method_52_code 94 = .ok (.iconst 1, 1) := by decide +kernel
theorem d_Mod_isDone_95 : decode prog_14_method_52_code 95 = .ok (.if_icmp .ne 24, 3) := by decide +kernel
theorem d_Mod_isDone_98 : decode prog_14_method_52_code 98 = .ok (.aload_n 0, 1) := by decide +kernel
theorem d_Mod_isDone_99 : decode prog_14_method_52_code 99 = .ok (.getfield 346, 3) := by decide +kernel
theorem d_Mod_isDone_102 : decode prog_14_method_52_code 102 = .ok (.aload_n 0, 1) := by decide +kernel
theorem d_Mod_isDone_103 : decode prog_14_method_52_code 103 = .ok (.getfield 35, 3) := by decide +kernel
theorem d_Mod_isDone_106 : decode prog_14_method_52_code 106 = .ok (.iload_n 1, 1) := by decide +kernel
theorem d_Mod_isDone_107 : decode prog_14_method_52_code 107 = .ok (.iaload, 1) := by decide +kernel
theorem d_Mod_isDone_108 : decode prog_14_method_52_code 108 = .ok (.if_icmp .lt 7, 3) := by decide +kernel
theorem d_Mod_isDone_111 : decode prog_14_method_52_code 111 = .ok (.iconst 1, 1) := by decide +kernel
theorem d_Mod_isDone_112 : decode prog_14_method_52_code 112 = .ok (.goto 23, 3) := by decide +kernel
theorem d_Mod_isDone_115 : decode prog_14_method_52_code 115 = .ok (.iconst 0, 1) := by decide +kernel
theorem d_Mod_isDone_116 : decode prog_14_method_52_code 116 = .ok (.goto 19, 3) := by decide +kernel
theorem d_Mod_isDone_119 : decode prog_14_method_52_code 119 = .ok (.aload_n 0, 1) := by decide +kernel
theorem d_Mod_isDone_120 : decode prog_14_method_52_code 120 = .ok (.aload_n 0, 1) := by decide +kernel
theorem d_Mod_isDone_121 : decode prog_14_method_52_code 121 = .ok (.getfield 32, 3) := by decide +kernel
theorem d_Mod_isDone_124 : decode prog_14_method_52_code 124 = .ok (.iload_n 1, 1) := by decide +kernel
theorem d_Mod_isDone_125 : decode prog_14_method_52_code 125 = .ok (.iaload, 1) := by decide +kernel
theorem d_Mod_isDone_126 : decode prog_14_method_52_code 126 = .ok (.aload_n 0, 1) := by decide +kernel
theorem d_Mod_isDone_127 : decode prog_14_method_52_code 127 = .ok (.getfield 35, 3) := by decide +kernel
theorem d_Mod_isDone_130 : decode prog_14_method_52_code 130 = .ok (.iload_n 1, 1) := by decide +kernel
theorem d_Mod_isDone_131 : decode prog_14_method_52_code 131 = .ok (.iaload, 1) := by decide +kernel
theorem d_Mod_isDone_132 : decode prog_14_method_52_code 132 = .ok (.invokevirtual 355, 3) := by decide +kernel
theorem d_Mod_isDone_135 : decode prog_14_method_52_code 135 = .ok (.istore_n 3, 1) := by decide +kernel
theorem d_Mod_isDone_136 : decode prog_14_method_52_code 136 = .ok (.aload_n 0, 1) := by decide +kernel
theorem d_Mod_isDone_137 : decode prog_14_method_52_code 137 = .ok (.getfield 148, 3) := by decide +kernel
theorem d_Mod_isDone_140 : decode prog_14_method_52_code 140 = .ok (.iload_n 2, 1) := by decide +kernel
theorem d_Mod_isDone_141 : decode prog_14_method_52_code 141 = .ok (.iload_n 3, 1) := by decide +kernel
theorem d_Mod_isDone_142 : decode prog_14_method_52_code 142 = .ok (.ifCond .ne 7, 3) := by decide +kernel
theorem d_Mod_isDone_145 : decode prog_14_method_52_code 145 = .ok (.iconst 1, 1) := by decide +kernel
theorem d_Mod_isDone_146 : decode prog_14_method_52_code 146 = .ok (.goto 4, 3) := by decide +kernel
theorem d_Mod_isDone_149 : decode prog_14_method_52_code 149 = .ok (.iconst 0, 1) := by decide +kernel
theorem d_Mod_isDone_150 : decode prog_14_method_52_code 150 = .ok (.bastore, 1) := by decide +kernel
theorem d_Mod_isDone_151 : decode prog_14_method_52_code 151 = .ok (.aload_n 0, 1) := by decide +kernel
theorem d_Mod_isDone_152 : decode prog_14_method_52_code 152 = .ok (.iload_n 3, 1) := by decide +kernel
theorem d_Mod_isDone_153 : decode prog_14_method_52_code 153 = .ok (.putfield 352, 3) := by decide +kernel
theorem d_Mod_isDone_156 : decode prog_14_method_52_code 156 = .ok (.aload_n 0, 1) := by decide +kernel
theorem d_Mod_isDone_157 : decode prog_14_method_52_code 157 = .ok (.getfield 59, 3) := by decide +kernel
theorem d_Mod_isDone_160 : decode prog_14_method_52_code 160 = .ok (.iload_n 1, 1) := by decide +kernel
theorem d_Mod_isDone_161 : decode prog_14_method_52_code 161 = .ok (.baload, 1) := by decide +kernel
theorem d_Mod_isDone_162 : decode prog_14_method_52_code 162 = .ok (.ifCond .ne 7, 3) := by decide +kernel
theorem d_Mod_isDone_165 : decode prog_14_method_52_code 165 = .ok (.iconst 1, 1) := by decide +kernel
theorem d_Mod_isDone_166 : decode prog_14_method_52_code 166 = .ok (.goto 4, 3) := by decide +kernel
theorem d_Mod_isDone_169 : decode prog_14_method_52_code 169 = .ok (.iconst 0, 1) := by decide +kernel
theorem d_Mod_isDone_170 : decode prog_14_method_52_code 170 = .ok (.ireturn, 1) := by decide +kernel
theorem d_Mod_isDone_171 : decode prog_14_method_52_code 171 = .ok (.aload_n 0, 1) := by decide +kernel
theorem d_Mod_isDone_172 : decode prog_14_method_52_code 172 = .ok (.aload_n 0, 1) := by decide +kernel
theorem d_Mod_isDone_173 : decode prog_14_method_52_code 173 = .ok (.getfield 26, 3) := by decide +kernel
theorem d_Mod_isDone_176 : decode prog_14_method_52_code 176 = .ok (.iload_n 1, 1) := by decide +kernel
theorem d_Mod_isDone_177 : decode prog_14_method_52_code 177 = .ok (.iaload, 1) := by decide +kernel
theorem d_Mod_isDone_178 : decode prog_14_method_52_code 178 = .ok (.aload_n 0, 1) := by decide +kernel
theorem d_Mod_isDone_179 : decode prog_14_method_52_code 179 = .ok (.getfield 29, 3) := by decide +kernel
theorem d_Mod_isDone_182 : decode prog_14_method_52_code 182 = .ok (.iload_n 1, 1) := by decide +kernel
theorem d_Mod_isDone_183 : decode prog_14_method_52_code 183 = .ok (.iaload, 1) := by decide +kernel
theorem d_Mod_isDone_184 : decode prog_14_method_52_code 184 = .ok (.invokevirtual 355, 3) := by decide +kernel
theorem d_Mod_isDone_187 : decode prog_14_method_52_code 187 = .ok (.istore_n 3, 1) := by decide +kernel
theorem d_Mod_isDone_188 : decode prog_14_method_52_code 188 = .ok (.aload_n 0, 1) := by decide +kernel
theorem d_Mod_isDone_189 : decode prog_14_method_52_code 189 = .ok (.iload_n 3, 1) := by decide +kernel
theorem d_Mod_isDone_190 : decode prog_14_method_52_code 190 = .ok (.ifCond .eq 30, 3) := by decide +kernel
theorem d_Mod_isDone_193 : decode prog_14_method_52_code 193 = .ok (.aload_n 0, 1) := by decide +kernel
theorem d_Mod_isDone_194 : decode prog_14_method_52_code 194 = .ok (.getfield 32, 3) := by decide +kernel
theorem d_Mod_isDone_197 : decode prog_14_method_52_code 197 = .ok (.iload_n 1, 1) := by decide +kernel
theorem d_Mod_isDone_198 : decode prog_14_method_52_code 198 = .ok (.iaload, 1) := by decide +kernel
theorem d_Mod_isDone_199 : decode prog_14_method_52_code 199 = .ok (.iconst 1, 1) := by decide +kernel
theorem d_Mod_isDone_200 : decode prog_14_method_52_code 200 = .ok (.if_icmp .ne 20, 3) := by decide +kernel
theorem d_Mod_isDone_203 : decode prog_14_method_52_code 203 = .ok (.aload_n 0, 1) := by decide +kernel
theorem d_Mod_isDone_204 : decode prog_14_method_52_code 204 = .ok (.getfield 35, 3) := by decide +kernel
theorem d_Mod_isDone_207 : decode prog_14_method_52_code 207 = .ok (.iload_n 1, 1) := by decide +kernel
theorem d_Mod_isDone_208 : decode prog_14_method_52_code 208 = .ok (.iaload, 1) := by decide +kernel
theorem d_Mod_isDone_209 : decode prog_14_method_52_code 209 = .ok (.aload_n 0, 1) := by decide +kernel
theorem d_Mod_isDone_210 : decode prog_14_method_52_code 210 = .ok (.getfield 346, 3) := by decide +kernel
theorem d_Mod_isDone_213 : decode prog_14_method_52_code 213 = .ok (.if_icmp .gt 7, 3) := by decide +kernel
theorem d_Mod_isDone_216 : decode prog_14_method_52_code 216 = .ok (.iconst 1, 1) := by decide +kernel
theorem d_Mod_isDone_217 : decode prog_14_method_52_code 217 = .ok (.goto 4, 3) := by decide +kernel
theorem d_Mod_isDone_220 : decode prog_14_method_52_code 220 = .ok (.iconst 0, 1) := by decide +kernel
theorem d_Mod_isDone_221 : decode prog_14_method_52_code 221 = .ok (.putfield 352, 3) := by decide +kernel
theorem d_Mod_isDone_224 : decode prog_14_method_52_code 224 = .ok (.aload_n 0, 1) := by decide +kernel
theorem d_Mod_isDone_225 : decode prog_14_method_52_code 225 = .ok (.getfield 148, 3) := by decide +kernel
theorem d_Mod_isDone_228 : decode prog_14_method_52_code 228 = .ok (.iload_n 2, 1) := by decide +kernel
theorem d_Mod_isDone_229 : decode prog_14_method_52_code 229 = .ok (.iload_n 3, 1) := by decide +kernel
theorem d_Mod_isDone_230 : decode prog_14_method_52_code 230 = .ok (.ifCond .eq 14, 3) := by decide +kernel
theorem d_Mod_isDone_233 : decode prog_14_method_52_code 233 = .ok (.aload_n 0, 1) := by decide +kernel
theorem d_Mod_isDone_234 : decode prog_14_method_52_code 234 = .ok (.getfield 352, 3) := by decide +kernel
theorem d_Mod_isDone_237 : decode prog_14_method_52_code 237 = .ok (.ifCond .ne 7, 3) := by decide +kernel
theorem d_Mod_isDone_240 : decode prog_14_method_52_code 240 = .ok (.iconst 1, 1) := by decide +kernel
theorem d_Mod_isDone_241 : decode prog_14_method_52_code 241 = .ok (.goto 4, 3) := by decide +kernel
theorem d_Mod_isDone_244 : decode prog_14_method_52_code 244 = .ok (.iconst 0, 1) := by decide +kernel
theorem d_Mod_isDone_245 : decode prog_14_method_52_code 245 = .ok (.bastore, 1) := by decide +kernel
theorem d_Mod_isDone_246 : decode prog_14_method_52_code 246 = .ok (.iload_n 3, 1) := by decide +kernel
theorem d_Mod_isDone_247 : decode prog_14_method_52_code 247 = .ok (.aload_n 0, 1) := by decide +kernel
theorem d_Mod_isDone_248 : decode prog_14_method_52_code 248 = .ok (.getfield 59, 3) := by decide +kernel
theorem d_Mod_isDone_251 : decode prog_14_method_52_code 251 = .ok (.iload_n 1, 1) := by decide +kernel
theorem d_Mod_isDone_252 : decode prog_14_method_52_code 252 = .ok (.baload, 1) := by decide +kernel
theorem d_Mod_isDone_253 : decode prog_14_method_52_code 253 = .ok (.if_icmp .eq 7, 3) := by decide +kernel
theorem d_Mod_isDone_256 : decode prog_14_method_52_code 256 = .ok (.iconst 1, 1) := by decide +kernel
theorem d_Mod_isDone_257 : decode prog_14_method_52_code 257 = .ok (.goto 4, 3) := by decide +kernel
theorem d_Mod_isDone_260 : decode prog_14_method_52_code 260 = .ok (.iconst 0, 1) := by decide +kernel
theorem d_Mod_isDone_261 : decode prog_14_method_52_code 261 = .ok (.ireturn, 1) := by decide +kernel
theorem d_Mod_readLine_0 : decode prog_14_method_53_code 0 = .ok (.aload_n 0, 1) := by decide +kernel
theorem d_Mod_readLine_1 : decode prog_14_method_53_code 1 = .ok (.aload_n 0, 1) := by decide +kernel
theorem d_Mod_readLine_2 : decode prog_14_method_53_code 2 = .ok (.getfield 13, 3) := by decide +kernel
theorem d_Mod_readLine_5 : decode prog_14_method_53_code 5 = .ok (.aload_n 0, 1) := by decide +kernel
theorem d_Mod_readLine_6 : decode prog_14_method_53_code 6 = .ok (.getfield 346, 3) := by decide +kernel
theorem d_Mod_readLine_9 : decode prog_14_method_53_code 9 = .ok (.iaload, 1) := by decide +kernel
theorem d_Mod_readLine_10 : decode prog_14_method_53_code 10 = .ok (.putfield 319, 3) := by decide +kernel
theorem d_Mod_readLine_13 : decode prog_14_method_53_code 13 = .ok (.iconst 0, 1) := by decide +kernel
theorem d_Mod_readLine_14 : decode prog_14_method_53_code 14 = .ok (.istore_n 1, 1) := by decide +kernel
theorem d_Mod_readLine_15 : decode prog_14_method_53_code 15 = .ok (.iload_n 1, 1) := by decide +kernel
theorem d_Mod_readLine_16 : decode prog_14_method_53_code 16 = .ok (.aload_n 0, 1) := by decide +kernel
theorem d_Mod_readLine_17 : decode prog_14_method_53_code 17 = .ok (.getfield 319, 3) := by decide +kernel
theorem d_Mod_readLine_20 : decode prog_14_method_53_code 20 = .ok (.if_icmp .ge 29, 3) := by decide +kernel
theorem d_Mod_readLine_23 : decode prog_14_method_53_code 23 = .ok (.aload_n 0, 1) := by decide +kernel
theorem d_Mod_readLine_24 : decode prog_14_method_53_code 24 = .ok (.getfield 130, 3) := by decide +kernel
theorem d_Mod_readLine_27 : decode prog_14_method_53_code 27 = .ok (.iload_n 1, 1) := by decide +kernel
theorem d_Mod_readLine_28 : decode prog_14_method_53_code 28 = .ok (.aload_n 0, 1) := by decide +kernel
theorem d_Mod_readLine_29 : decode prog_14_method_53_code 29 = .ok (.getfield 16, 3) := by decide +kernel
theorem d_Mod_readLine_32 : decode prog_14_method_53_code 32 = .ok (.bipush 24, 2) := by decide +kernel
theorem d_Mod_readLine_34 : decode prog_14_method_53_code 34 = .ok (.aload_n 0, 1) := by decide +kernel
theorem d_Mod_readLine_35 : decode prog_14_method_53_code 35 = .ok (.getfield 346, 3) := by decide +kernel
theorem d_Mod_readLine_38 : decode prog_14_method_53_code 38 = .ok (.imul, 1) := by decide +kernel
theorem d_Mod_readLine_39 : decode prog_14_method_53_code 39 = .ok (.iload_n 1, 1) := by decide +kernel
theorem d_Mod_readLine_40 : decode prog_14_method_53_code 40 = .ok (.iadd, 1) := by decide +kernel
theorem d_Mod_readLine_41 : decode prog_14_method_53_code 41 = .ok (.iaload, 1) := by decide +kernel
theorem d_Mod_readLine_42 : decode prog_14_method_53_code 42 = .ok (.iastore, 1) := by decide +kernel
theorem d_Mod_readLine_43 : decode prog_14_method_53_code 43 = .ok (.iinc 1 1, 3) := by decide +kernel
theorem d_Mod_readLine_46 : decode prog_14_method_53_code 46 = .ok (.goto (-31), 3) := by decide +kernel
theorem d_Mod_readLine_49 : decode prog_14_method_53_code 49 = .ok (.aload_n 0, 1) := by decide +kernel
theorem d_Mod_readLine_50 : decode prog_14_method_53_code 50 = .ok (.dup, 1) := by decide +kernel
theorem d_Mod_readLine_51 : decode prog_14_method_53_code 51 = .ok (.getfield 346, 3) := by decide +kernel
theorem d_Mod_readLine_54 : decode prog_14_method_53_code 54 = .ok (.iconst 1, 1) := by decide +kernel
theorem d_Mod_readLine_55 : decode prog_14_method_53_code 55 = .ok (.iadd, 1) := by decide +kernel
theorem d_Mod_readLine_56 : decode prog_14_method_53_code 56 = .ok (.putfield 346, 3) := by decide +kernel
theorem d_Mod_readLine_59 : decode prog_14_method_53_code 59 = .ok (.return_, 1) := by decide +kernel
theorem d_Mod_add_0 : decode prog_14_method_54_code 0 = .ok (.aload_n 0, 1) := by decide +kernel
theorem d_Mod_add_1 : decode prog_14_method_54_code 1 = .ok (.getfield 334, 3) := by decide +kernel
theorem d_Mod_add_4 : decode prog_14_method_54_code 4 = .ok (.sipush 390, 3) := by decide +kernel
theorem d_Mod_add_7 : decode prog_14_method_54_code 7 = .ok (.if_icmp .ge 20, 3) := by decide +kernel
theorem d_Mod_add_10 : decode prog_14_method_54_code 10 = .ok (.aload_n 0, 1) := by decide +kernel
theorem d_Mod_add_11 : decode prog_14_method_54_code 11 = .ok (.getfield 136, 3) := by decide +kernel
theorem d_Mod_add_14 : decode prog_14_method_54_code 14 = .ok (.aload_n 0, 1) := by decide +kernel
theorem d_Mod_add_15 : decode prog_14_method_54_code 15 = .ok (.dup, 1) := by decide +kernel
theorem d_Mod_add_16 : decode prog_14_method_54_code 16 = .ok (.getfield 334, 3) := by decide +kernel
theorem d_Mod_add_19 : decode prog_14_method_54_code 19 = .ok (.dup_x1, 1) := by decide +kernel
theorem d_Mod_add_20 : decode prog_14_method_54_code 20 = .ok (.iconst 1, 1) := by decide +kernel
theorem d_Mod_add_21 : decode prog_14_method_54_code 21 = .ok (.iadd, 1) := by decide +kernel
theorem d_Mod_add_22 : decode prog_14_method_54_code 22 = .ok (.putfield 334, 3) := by decide +kernel
theorem d_Mod_add_25 : decode prog_14_method_54_code 25 = .ok (.iload_n 1, 1) := by decide +kernel
theorem d_Mod_add_26 : decode prog_14_method_54_code 26 = .ok (.iastore, 1) := by decide +kernel
theorem d_Mod_add_27 : decode prog_14_method_54_code 27 = .ok (.return_, 1) := by decide +kernel
