theorem d_Mod_copyOf_0 : decode prog_14_method_55_code 0 = .ok (.iload_n 1, 1) := by decide +kernel
theorem d_Mod_copyOf_1 : decode prog_14_method_55_code 1 = .ok (.istore_n 3, 1) := by decide +kernel
theorem d_Mod_copyOf_2 : decode prog_14_method_55_code 2 = .ok (.iload_n 3, 1) := by decide +kernel
theorem d_Mod_copyOf_3 : decode prog_14_method_55_code 3 = .ok (.iload_n 2, 1) := by decide +kernel
theorem d_Mod_copyOf_4 : decode prog_14_method_55_code 4 = .ok (.if_icmp .ge 19, 3) := by decide +kernel
theorem d_Mod_copyOf_7 : decode prog_14_method_55_code 7 = .ok (.aload_n 0, 1) := by decide +kernel
theorem d_Mod_copyOf_8 : decode prog_14_method_55_code 8 = .ok (.aload_n 0, 1) := by decide +kernel
theorem d_Mod_copyOf_9 : decode prog_14_method_55_code 9 = .ok (.getfield 121, 3) := by decide +kernel
theorem d_Mod_copyOf_12 : decode prog_14_method_55_code 12 = .ok (.iload_n 3, 1) := by decide +kernel
theorem d_Mod_copyOf_13 : decode prog_14_method_55_code 13 = .ok (.iaload, 1) := by decide +kernel
theorem d_Mod_copyOf_14 : decode prog_14_method_55_code 14 = .ok (.invokevirtual 358, 3) := by decide +kernel
theorem d_Mod_copyOf_17 : decode prog_14_method_55_code 17 = .ok (.iinc 3 1, 3) := by decide +kernel
theorem d_Mod_copyOf_20 : decode prog_14_method_55_code 20 = .ok (.goto (-18), 3) := by decide +kernel
theorem d_Mod_copyOf_23 : decode prog_14_method_55_code 23 = .ok (.return_, 1) := by decide +kernel
theorem d_Mod_addReplacement_0 : decode prog_14_method_56_code 0 = .ok (.aload_n 0, 1) := by decide +kernel
theorem d_Mod_addReplacement_1 : decode prog_14_method_56_code 1 = .ok (.getfield 41, 3) := by decide +kernel
theorem d_Mod_addReplacement_4 : decode prog_14_method_56_code 4 = .ok (.iload_n 1, 1) := by decide +kernel
theorem d_Mod_addReplacement_5 : decode prog_14_method_56_code 5 = .ok (.iaload, 1) := by decide +kernel
theorem d_Mod_addReplacement_6 : decode prog_14_method_56_code 6 = .ok (.istore_n 2, 1) := by decide +kernel
theorem d_Mod_addReplacement_7 : decode prog_14_method_56_code 7 = .ok (.iload_n 2, 1) := by decide +kernel
theorem d_Mod_addReplacement_8 : decode prog_14_method_56_code 8 = .ok (.aload_n 0, 1) := by decide +kernel
theorem d_Mod_addReplacement_9 : decode prog_14_method_56_code 9 = .ok (.getfield 44, 3) := by decide +kernel
theorem d_Mod_addReplacement_12 : decode prog_14_method_56_code 12 = .ok (.iload_n 1, 1) := by decide +kernel
theorem d_Mod_addReplacement_13 : decode prog_14_method_56_code 13 = .ok (.iaload, 1) := by decide +kernel
theorem d_Mod_addReplacement_14 : decode prog_14_method_56_code 14 = .ok (.if_icmp .ge 88, 3) := by decide +kernel
theorem d_Mod_addReplacement_17 : decode prog_14_method_56_code 17 = .ok (.aload_n 0, 1) := by decide +kernel
theorem d_Mod_addReplacement_18 : decode prog_14_method_56_code 18 = .ok (.getfield 96, 3) := by decide +kernel
theorem d_Mod_addReplacement_21 : decode prog_14_method_56_code 21 = .ok (.iload_n 2, 1) := by decide +kernel
theorem d_Mod_addReplacement_22 : decode prog_14_method_56_code 22 = .ok (.iaload, 1) := by decide +kernel
theorem d_Mod_addReplacement_23 : decode prog_14_method_56_code 23 = .ok (.istore_n 3, 1) := by decide +kernel
theorem d_Mod_addReplacement_24 : decode prog_14_method_56_code 24 = .ok (.iload_n 3, 1) := by decide +kernel
theorem d_Mod_addReplacement_25 : decode prog_14_method_56_code 25 = .ok (.sipush 200, 3) := by decide +kernel
theorem d_Mod_addReplacement_28 : decode prog_14_method_56_code 28 = .ok (.if_icmp .ge 11, 3) := by decide +kernel
theorem d_Mod_addReplacement_31 : decode prog_14_method_56_code 31 = .ok (.aload_n 0, 1) := by decide +kernel
theorem d_Mod_addReplacement_32 : decode prog_14_method_56_code 32 = .ok (.iload_n 3, 1) := by decide +kernel
theorem d_Mod_addReplacement_33 : decode prog_14_method_56_code 33 = .ok (.invokevirtual 358, 3) := by decide +kernel
theorem d_Mod_addReplacement_36 : decode prog_14_method_56_code 36 = .ok (.goto 60, 3) := by decide +kernel
theorem d_Mod_addReplacement_39 : decode prog_14_method_56_code 39 = .ok (.iload_n 3, 1) := by decide +kernel
theorem d_Mod_addReplacement_40 : decode prog_14_method_56_code 40 = .ok (.sipush 200, 3) := by decide +kernel
theorem d_Mod_addReplacement_43 : decode prog_14_method_56_code 43 = .ok (.if_icmp .ne 18, 3) := by decide +kernel
theorem d_Mod_addReplacement_46 : decode prog_14_method_56_code 46 = .ok (.aload_n 0, 1) := by decide +kernel
theorem d_Mod_addReplacement_47 : decode prog_14_method_56_code 47 = .ok (.aload_n 0, 1) := by decide +kernel
theorem d_Mod_addReplacement_48 : decode prog_14_method_56_code 48 = .ok (.getfield 313, 3) := by decide +kernel
theorem d_Mod_addReplacement_51 : decode prog_14_method_56_code 51 = .ok (.aload_n 0, 1) := by decide +kernel
theorem d_Mod_addReplacement_52 : decode prog_14_method_56_code 52 = .ok (.getfield 316, 3) := by decide +kernel
theorem d_Mod_addReplacement_55 : decode prog_14_method_56_code 55 = .ok (.invokevirtual 361, 3) := by decide +kernel
theorem d_Mod_addReplacement_58 : decode prog_14_method_56_code 58 = .ok (.goto 38, 3) := by decide +kernel
theorem d_Mod_addReplacement_61 : decode prog_14_method_56_code 61 = .ok (.aload_n 0, 1) := by decide +kernel
theorem d_Mod_addReplacement_62 : decode prog_14_method_56_code 62 = .ok (.aload_n 0, 1) := by decide +kernel
theorem d_Mod_addReplacement_63 : decode prog_14_method_56_code 63 = .ok (.getfield 124, 3) := by decide +kernel
theorem d_Mod_addReplacement_66 : decode prog_14_method_56_code 66 = .ok (.iload_n 3, 1) := by decide +kernel
theorem d_Mod_addReplacement_67 : decode prog_14_method_56_code 67 = .ok (.sipush 200, 3) := by decide +kernel
theorem d_Mod_addReplacement_70 : decode prog_14_method_56_code 70 = .ok (.isub, 1) := by decide +kernel
theorem d_Mod_addReplacement_71 : decode prog_14_method_56_code 71 = .ok (.iaload, 1) := by decide +kernel
theorem d_Mod_addReplacement_72 : decode prog_14_method_56_code 72 = .ok (.aload_n 0, 1) := by decide +kernel
theorem d_Mod_addReplacement_73 : decode prog_14_method_56_code 73 = .ok (.getfield 124, 3) := by decide +kernel
theorem d_Mod_addReplacement_76 : decode prog_14_method_56_code 76 = .ok (.iload_n 3, 1) := by decide +kernel
theorem d_Mod_addReplacement_77 : decode prog_14_method_56_code 77 = .ok (.sipush 200, 3) := by decide +kernel
theorem d_Mod_addReplacement_80 : decode prog_14_method_56_code 80 = .ok (.isub, 1) := by decide +kernel
theorem d_Mod_addReplacement_81 : decode prog_14_method_56_code 81 = .ok (.iaload, 1) := by decide +kernel
theorem d_Mod_addReplacement_82 : decode prog_14_method_56_code 82 = .ok (.aload_n 0, 1) := by decide +kernel
theorem d_Mod_addReplacement_83 : decode prog_14_method_56_code 83 = .ok (.getfield 127, 3) := by decide +kernel
theorem d_Mod_addReplacement_86 : decode prog_14_method_56_code 86 = .ok (.iload_n 3, 1) := by decide +kernel
theorem d_Mod_addReplacement_87 : decode prog_14_method_56_code 87 = .ok (.sipush 200, 3) := by decide +kernel
theorem d_Mod_addReplacement_90 : decode prog_14_method_56_code 90 = .ok (.isub, 1) := by decide +kernel
theorem d_Mod_addReplacement_91 : decode prog_14_method_56_code 91 = .ok (.iaload, 1) := by decide +kernel
theorem d_Mod_addReplacement_92 : decode prog_14_method_56_code 92 = .ok (.iadd, 1) := by decide +kernel
theorem d_Mod_addReplacement_93 : decode prog_14_method_56_code 93 = .ok (.invokevirtual 361, 3) := by decide +kernel
theorem d_Mod_addReplacement_96 : decode prog_14_method_56_code 96 = .ok (.iinc 2 1, 3) := by decide +kernel
theorem d_Mod_addReplacement_99 : decode prog_14_method_56_code 99 = .ok (.goto (-92), 3) := by decide +kernel
theorem d_Mod_addReplacement_102 : decode prog_14_method_56_code 102 = .ok (.return_, 1) := by decide +kernel
theorem d_Mod_substituted_0 : decode prog_14_method_57_code 0 = .ok (.aload_n 0, 1) := by decide +kernel
theorem d_Mod_substituted_1 : decode prog_14_method_57_code 1 = .ok (.invokevirtual 349, 3) := by decide +kernel
theorem d_Mod_substituted_4 : decode prog_14_method_57_code 4 = .ok (.aload_n 0, 1) := by decide +kernel
theorem d_Mod_substituted_5 : decode prog_14_method_57_code 5 = .ok (.iconst 0, 1) := by decide +kernel
theorem d_Mod_substituted_6 : decode prog_14_method_57_code 6 = .ok (.putfield 334, 3) := by decide +kernel
theorem d_Mod_substituted_9 : decode prog_14_method_57_code 9 = .ok (.iconst 0, 1) := by decide +kernel
theorem d_Mod_substituted_10 : decode prog_14_method_57_code 10 = .ok (.istore_n 2, 1) := by decide +kernel
theorem d_Mod_substituted_11 : decode prog_14_method_57_code 11 = .ok (.iconst (-1), 1) := by decide +kernel
theorem d_Mod_substituted_12 : decode prog_14_method_57_code 12 = .ok (.istore_n 3, 1) := by decide +kernel
theorem d_Mod_substituted_13 : decode prog_14_method_57_code 13 = .ok (.iconst 0, 1) := by decide +kernel
theorem d_Mod_substituted_14 : decode prog_14_method_57_code 14 = .ok (.istore 4, 2) := by decide +kernel
theorem d_Mod_substituted_16 : decode prog_14_method_57_code 16 = .ok (.iconst 0, 1) := by decide +kernel
theorem d_Mod_substituted_17 : decode prog_14_method_57_code 17 = .ok (.istore 5, 2) := by decide +kernel
theorem d_Mod_substituted_19 : decode prog_14_method_57_code 19 = .ok (.aload_n 0, 1) := by decide +kernel
theorem d_Mod_substituted_20 : decode prog_14_method_57_code 20 = .ok (.getfield 53, 3) := by decide +kernel
theorem d_Mod_substituted_23 : decode prog_14_method_57_code 23 = .ok (.iload_n 1, 1) := by decide +kernel
theorem d_Mod_substituted_24 : decode prog_14_method_57_code 24 = .ok (.iaload, 1) := by decide +kernel
theorem d_Mod_substituted_25 : decode prog_14_method_57_code 25 = .ok (.ifCond .le 12, 3) := by decide +kernel
theorem d_Mod_substituted_28 : decode prog_14_method_57_code 28 = .ok (.aload_n 0, 1) := by decide +kernel
theorem d_Mod_substituted_29 : decode prog_14_method_57_code 29 = .ok (.getfield 53, 3) := by decide +kernel
theorem d_Mod_substituted_32 : decode prog_14_method_57_code 32 = .ok (.iload_n 1, 1) := by decide +kernel
theorem d_Mod_substituted_33 : decode prog_14_method_57_code 33 = .ok (.iaload, 1) := by decide +kernel
theorem d_Mod_substituted_34 : decode prog_14_method_57_code 34 = .ok (.goto 4, 3) := by decide +kernel
theorem d_Mod_substituted_37 : decode prog_14_method_57_code 37 = .ok (.iconst 1, 1) := by decide +kernel
theorem d_Mod_substituted_38 : decode prog_14_method_57_code 38 = .ok (.istore 6, 2) := by decide +kernel
theorem d_Mod_substituted_40 : decode prog_14_method_57_code 40 = .ok (.iconst 1, 1) := by decide +kernel
theorem d_Mod_substituted_41 : decode prog_14_method_57_code 41 = .ok (.istore 7, 2) := by decide +kernel
theorem d_Mod_substituted_43 : decode prog_14_method_57_code 43 = .ok (.iload 7, 2) := by decide +kernel
theorem d_Mod_substituted_45 : decode prog_14_method_57_code 45 = .ok (.ifCond .eq 179, 3) := by decide +kernel
theorem d_Mod_substituted_48 : decode prog_14_method_57_code 48 = .ok (.iload_n 2, 1) := by decide +kernel
theorem d_Mod_substituted_49 : decode prog_14_method_57_code 49 = .ok (.aload_n 0, 1) := by decide +kernel
theorem d_Mod_substituted_50 : decode prog_14_method_57_code 50 = .ok (.getfield 299, 3) := by decide +kernel
theorem d_Mod_substituted_53 : decode prog_14_method_57_code 53 = .ok (.if_icmp .gt 171, 3) := by decide +kernel
theorem d_Mod_substituted_56 : decode prog_14_method_57_code 56 = .ok (.aload_n 0, 1) := by decide +kernel
theorem d_Mod_substituted_57 : decode prog_14_method_57_code 57 = .ok (.aload_n 0, 1) := by decide +kernel
theorem d_Mod_substituted_58 : decode prog_14_method_57_code 58 = .ok (.getfield 38, 3) := by decide +kernel
theorem d_Mod_substituted_61 : decode prog_14_method_57_code 61 = .ok (.iload_n 1, 1) := by decide +kernel
theorem d_Mod_substituted_62 : decode prog_14_method_57_code 62 = .ok (.iaload, 1) := by decide +kernel
theorem d_Mod_substituted_63 : decode prog_14_method_57_code 63 = .ok (.iload_n 2, 1) := by decide +kernel
theorem d_Mod_substituted_64 : decode prog_14_method_57_code 64 = .ok (.invokevirtual 325, 3) := by decide +kernel
theorem d_Mod_substituted_67 : decode prog_14_method_57_code 67 = .ok (.istore 7, 2) := by decide +kernel
theorem d_Mod_substituted_69 : decode prog_14_method_57_code 69 = .ok (.iload 7, 2) := by decide +kernel
theorem d_Mod_substituted_71 : decode prog_14_method_57_code 71 = .ok (.ifCond .ne 6, 3) := by decide +kernel
theorem d_Mod_substituted_74 : decode prog_14_method_57_code 74 = .ok (.goto (-31), 3) := by decide +kernel
theorem d_Mod_substituted_77 : decode prog_14_method_57_code 77 = .ok (.aload_n 0, 1) := by decide +kernel
theorem d_Mod_substituted_78 : decode prog_14_method_57_code 78 = .ok (.getfield 313, 3) := by decide +kernel
theorem d_Mod_substituted_81 : decode prog_14_method_57_code 81 = .ok (.istore 8, 2) := by decide +kernel
theorem d_Mod_substituted_83 : decode prog_14_method_57_code 83 = .ok (.aload_n 0, 1) := by decide +kernel
theorem d_Mod_substituted_84 : decode prog_14_method_57_code 84 = .ok (.getfield 316, 3) := by decide +kernel
theorem d_Mod_substituted_87 : decode prog_14_method_57_code 87 = .ok (.istore 9, 2) := by decide +kernel
theorem d_Mod_substituted_89 : decode prog_14_method_57_code 89 = .ok (.aload_n 0, 1) := by decide +kernel
theorem d_Mod_substituted_90 : decode prog_14_method_57_code 90 = .ok (.iload_n 2, 1) := by decide +kernel
theorem d_Mod_substituted_91 : decode prog_14_method_57_code 91 = .ok (.iload 8, 2) := by decide +kernel
theorem d_Mod_substituted_93 : decode prog_14_method_57_code 93 = .ok (.invokevirtual 361, 3) := by decide +kernel
theorem d_Mod_substituted_96 : decode prog_14_method_57_code 96 = .ok (.iload 9, 2) := by decide +kernel
theorem d_Mod_substituted_98 : decode prog_14_method_57_code 98 = .ok (.iload 8, 2) := by decide +kernel
theorem d_Mod_substituted_100 : decode prog_14_method_57_code 100 = .ok (.if_icmp .gt 9, 3) := by decide +kernel
theorem d_Mod_substituted_103 : decode prog_14_method_57_code 103 = .ok (.iload 8, 2) := by decide +kernel
theorem d_Mod_substituted_105 : decode prog_14_method_57_code 105 = .ok (.iload_n 3, 1) := by decide +kernel
theorem d_Mod_substituted_106 : decode prog_14_method_57_code 106 = .ok (.if_icmp .eq 7, 3) := by decide +kernel
theorem d_Mod_substituted_109 : decode prog_14_method_57_code 109 = .ok (.iconst 1, 1) := by decide +kernel
theorem d_Mod_substituted_110 : decode prog_14_method_57_code 110 = .ok (.goto 4, 3) := by decide +kernel
theorem d_Mod_substituted_113 : decode prog_14_method_57_code 113 = .ok (.iconst 0, 1) := by decide +kernel
theorem d_Mod_substituted_114 : decode prog_14_method_57_code 114 = .ok (.istore 10, 2) := by decide +kernel
theorem d_Mod_substituted_116 : decode prog_14_method_57_code 116 = .ok (.iload 10, 2) := by decide +kernel
theorem d_Mod_substituted_118 : decode prog_14_method_57_code 118 = .ok (.ifCond .eq 6, 3) := by decide +kernel
theorem d_Mod_substituted_121 : decode prog_14_method_57_code 121 = .ok (.iinc 4 1, 3) := by decide +kernel
theorem d_Mod_substituted_124 : decode prog_14_method_57_code 124 = .ok (.iload 10, 2) := by decide +kernel
theorem d_Mod_substituted_126 : decode prog_14_method_57_code 126 = .ok (.ifCond .eq 49, 3) := by decide +kernel
theorem d_Mod_substituted_129 : decode prog_14_method_57_code 129 = .ok (.iload 4, 2) := by decide +kernel
theorem d_Mod_substituted_131 : decode prog_14_method_57_code 131 = .ok (.iload 6, 2) := by decide +kernel
theorem d_Mod_substituted_133 : decode prog_14_method_57_code 133 = .ok (.if_icmp .eq 19, 3) := by decide +kernel
theorem d_Mod_substituted_136 : decode prog_14_method_57_code 136 = .ok (.iload 4, 2) := by decide +kernel
theorem d_Mod_substituted_138 : decode prog_14_method_57_code 138 = .ok (.iload 6, 2) := by decide +kernel
theorem d_Mod_substituted_140 : decode prog_14_method_57_code 140 = .ok (.if_icmp .le 35, 3) := by decide +kernel
theorem d_Mod_substituted_143 : decode prog_14_method_57_code 143 = .ok (.aload_n 0, 1) := by decide +kernel
theorem d_Mod_substituted_144 : decode prog_14_method_57_code 144 = .ok (.getfield 63, 3) := by decide +kernel
theorem d_Mod_substituted_147 : decode prog_14_method_57_code 147 = .ok (.iload_n 1, 1) := by decide +kernel
theorem d_Mod_substituted_148 : decode prog_14_method_57_code 148 = .ok (.baload, 1) := by decide +kernel
theorem d_Mod_substituted_149 : decode prog_14_method_57_code 149 = .ok (.ifCond .eq 26, 3) := by decide +kernel
theorem d_Mod_substituted_152 : decode prog_14_method_57_code 152 = .ok (.aload_n 0, 1) := by decide +kernel
theorem d_Mod_substituted_153 : decode prog_14_method_57_code 153 = .ok (.iload_n 1, 1) := by decide +kernel
theorem d_Mod_substituted_154 : decode prog_14_method_57_code 154 = .ok (.invokevirtual 365, 3) := by decide +kernel
theorem d_Mod_substituted_157 : decode prog_14_method_57_code 157 = .ok (.iinc 5 1, 3) := by decide +kernel
theorem d_Mod_substituted_160 : decode prog_14_method_57_code 160 = .ok (.aload_n 0, 1) := by decide +kernel
theorem d_Mod_substituted_161 : decode prog_14_method_57_code 161 = .ok (.getfield 63, 3) := by decide +kernel
theorem d_Mod_substituted_164 : decode prog_14_method_57_code 164 = .ok (.iload_n 1, 1) := by decide +kernel
theorem d_Mod_substituted_165 : decode prog_14_method_57_code 165 = .ok (.baload, 1) := by decide +kernel
theorem d_Mod_substituted_166 : decode prog_14_method_57_code 166 = .ok (.ifCond .ne 17, 3) := by decide +kernel
theorem d_Mod_substituted_169 : decode prog_14_method_57_code 169 = .ok (.iconst 0, 1) := by decide +kernel
theorem d_Mod_substituted_170 : decode prog_14_method_57_code 170 = .ok (.istore 7, 2) := by decide +kernel
theorem d_Mod_substituted_172 : decode prog_14_method_57_code 172 = .ok (.goto 11, 3) := by decide +kernel
theorem d_Mod_substituted_175 : decode prog_14_method_57_code 175 = .ok (.aload_n 0, 1) := by decide +kernel
theorem d_Mod_substituted_176 : decode prog_14_method_57_code 176 = .ok (.iload 8, 2) := by decide +kernel
theorem d_Mod_substituted_178 : decode prog_14_method_57_code 178 = .ok (.iload 9, 2) := by decide +kernel
theorem d_Mod_substituted_180 : decode prog_14_method_57_code 180 = .ok (.invokevirtual 361, 3) := by decide +kernel
theorem d_Mod_substituted_183 : decode prog_14_method_57_code 183 = .ok (.iload 9, 2) := by decide +kernel
theorem d_Mod_substituted_185 : decode prog_14_method_57_code 185 = .ok (.istore_n 3, 1) := by decide +kernel
theorem d_Mod_substituted_186 : decode prog_14_method_57_code 186 = .ok (.iload 9, 2) := by decide +kernel
theorem d_Mod_substituted_188 : decode prog_14_method_57_code 188 = .ok (.istore_n 2, 1) := by decide +kernel
theorem d_Mod_substituted_189 : decode prog_14_method_57_code 189 = .ok (.iload 9, 2) := by decide +kernel
theorem d_Mod_substituted_191 : decode prog_14_method_57_code 191 = .ok (.iload 8, 2) := by decide +kernel
theorem d_Mod_substituted_193 : decode prog_14_method_57_code 193 = .ok (.if_icmp .ne 28, 3) := by decide +kernel
theorem d_Mod_substituted_196 : decode prog_14_method_57_code 196 = .ok (.iload 8, 2) := by decide +kernel
theorem d_Mod_substituted_198 : decode prog_14_method_57_code 198 = .ok (.aload_n 0, 1) := by decide +kernel
theorem d_Mod_substituted_199 : decode prog_14_method_57_code 199 = .ok (.getfield 299, 3) := by decide +kernel
theorem d_Mod_substituted_202 : decode prog_14_method_57_code 202 = .ok (.if_icmp .ge 14, 3) := by decide +kernel
theorem d_Mod_substituted_205 : decode prog_14_method_57_code 205 = .ok (.aload_n 0, 1) := by decide +kernel
theorem d_Mod_substituted_206 : decode prog_14_method_57_code 206 = .ok (.aload_n 0, 1) := by decide +kernel
theorem d_Mod_substituted_207 : decode prog_14_method_57_code 207 = .ok (.getfield 121, 3) := by decide +kernel
theorem d_Mod_substituted_210 : decode prog_14_method_57_code 210 = .ok (.iload 8, 2) := by decide +kernel
theorem d_Mod_substituted_212 : decode prog_14_method_57_code 212 = .ok (.iaload, 1) := by decide +kernel
theorem d_Mod_substituted_213 : decode prog_14_method_57_code 213 = .ok (.invokevirtual 358, 3) := by decide +kernel
theorem d_Mod_substituted_216 : decode prog_14_method_57_code 216 = .ok (.iload 8, 2) := by decide +kernel
theorem d_Mod_substituted_218 : decode prog_14_method_57_code 218 = .ok (.iconst 1, 1) := by decide +kernel
theorem d_Mod_substituted_219 : decode prog_14_method_57_code 219 = .ok (.iadd, 1) := by decide +kernel
theorem d_Mod_substituted_220 : decode prog_14_method_57_code 220 = .ok (.istore_n 2, 1) := by decide +kernel
theorem d_Mod_substituted_221 : decode prog_14_method_57_code 221 = .ok (.goto (-178), 3) := by decide +kernel
theorem d_Mod_substituted_224 : decode prog_14_method_57_code 224 = .ok (.iload 5, 2) := by decide +kernel
theorem d_Mod_substituted_226 : decode prog_14_method_57_code 226 = .ok (.ifCond .ne 5, 3) := by decide +kernel
theorem d_Mod_substituted_229 : decode prog_14_method_57_code 229 = .ok (.iconst 1, 1) := by decide +kernel
theorem d_Mod_substituted_230 : decode prog_14_method_57_code 230 = .ok (.ireturn, 1) := by decide +kernel
theorem d_Mod_substituted_231 : decode prog_14_method_57_code 231 = .ok (.iload_n 2, 1) := by decide +kernel
theorem d_Mod_substituted_232 : decode prog_14_method_57_code 232 = .ok (.aload_n 0, 1) := by decide +kernel
theorem d_Mod_substituted_233 : decode prog_14_method_57_code 233 = .ok (.getfield 299, 3) := by decide +kernel
theorem d_Mod_substituted_236 : decode prog_14_method_57_code 236 = .ok (.if_icmp .ge 12, 3) := by decide +kernel
theorem d_Mod_substituted_239 : decode prog_14_method_57_code 239 = .ok (.aload_n 0, 1) := by decide +kernel
theorem d_Mod_substituted_240 : decode prog_14_method_57_code 240 = .ok (.iload_n 2, 1) := by decide +kernel
theorem d_Mod_substituted_241 : decode prog_14_method_57_code 241 = .ok (.aload_n 0, 1) := by decide +kernel
theorem d_Mod_substituted_242 : decode prog_14_method_57_code 242 = .ok (.getfield 299, 3) := by decide +kernel
theorem d_Mod_substituted_245 : decode prog_14_method_57_code 245 = .ok (.invokevirtual 361, 3) := by decide +kernel
theorem d_Mod_substituted_248 : decode prog_14_method_57_code 248 = .ok (.aload_n 0, 1) := by decide +kernel
theorem d_Mod_substituted_249 : decode prog_14_method_57_code 249 = .ok (.getfield 334, 3) := by decide +kernel
theorem d_Mod_substituted_252 : decode prog_14_method_57_code 252 = .ok (.bipush 60, 2) := by decide +kernel
theorem d_Mod_substituted_254 : decode prog_14_method_57_code 254 = .ok (.if_icmp .gt 29, 3) := by decide +kernel
theorem d_Mod_substituted_257 : decode prog_14_method_57_code 257 = .ok (.aload_n 0, 1) := by decide +kernel
theorem d_Mod_substituted_258 : decode prog_14_method_57_code 258 = .ok (.getfield 66, 3) := by decide +kernel
theorem d_Mod_substituted_261 : decode prog_14_method_57_code 261 = .ok (.iload_n 1, 1) := by decide +kernel
theorem d_Mod_substituted_262 : decode prog_14_method_57_code 262 = .ok (.baload, 1) := by decide +kernel
theorem d_Mod_substituted_263 : decode prog_14_method_57_code 263 = .ok (.ifCond .eq 25, 3) := by decide +kernel
theorem d_Mod_substituted_266 : decode prog_14_method_57_code 266 = .ok (.aload_n 0, 1) := by decide +kernel
theorem d_Mod_substituted_267 : decode prog_14_method_57_code 267 = .ok (.getfield 331, 3) := by decide +kernel
theorem d_Mod_substituted_270 : decode prog_14_method_57_code 270 = .ok (.aload_n 0, 1) := by decide +kernel
theorem d_Mod_substituted_271 : decode prog_14_method_57_code 271 = .ok (.getfield 334, 3) := by decide +kernel
theorem d_Mod_substituted_274 : decode prog_14_method_57_code 274 = .ok (.iadd, 1) := by decide +kernel
theorem d_Mod_substituted_275 : decode prog_14_method_57_code 275 = .ok (.iconst 1, 1) := by decide +kernel
theorem d_Mod_substituted_276 : decode prog_14_method_57_code 276 = .ok (.iadd, 1) := by decide +kernel
theorem d_Mod_substituted_277 : decode prog_14_method_57_code 277 = .ok (.sipush 600, 3) := by decide +kernel
theorem d_Mod_substituted_280 : decode prog_14_method_57_code 280 = .ok (.if_icmp .le 8, 3) := by decide +kernel
theorem d_Mod_substituted_283 : decode prog_14_method_57_code 283 = .ok (.aload_n 0, 1) := by decide +kernel
theorem d_Mod_substituted_284 : decode prog_14_method_57_code 284 = .ok (.invokevirtual 337, 3) := by decide +kernel
theorem d_Mod_substituted_287 : decode prog_14_method_57_code 287 = .ok (.ireturn, 1) := by decide +kernel
theorem d_Mod_substituted_288 : decode prog_14_method_57_code 288 = .ok (.iconst 0, 1) := by decide +kernel
theorem d_Mod_substituted_289 : decode prog_14_method_57_code 289 = .ok (.istore 8, 2) := by decide +kernel
theorem d_Mod_substituted_291 : decode prog_14_method_57_code 291 = .ok (.iload 8, 2) := by decide +kernel
theorem d_Mod_substituted_293 : decode prog_14_method_57_code 293 = .ok (.aload_n 0, 1) := by decide +kernel
theorem d_Mod_substituted_294 : decode prog_14_method_57_code 294 = .ok (.getfield 334, 3) := by decide +kernel
theorem d_Mod_substituted_297 : decode prog_14_method_57_code 297 = .ok (.if_icmp .ge 23, 3) := by decide +kernel
theorem d_Mod_substituted_300 : decode prog_14_method_57_code 300 = .ok (.aload_n 0, 1) := by decide +kernel
theorem d_Mod_substituted_301 : decode prog_14_method_57_code 301 = .ok (.getfield 130, 3) := by decide +kernel
theorem d_Mod_substituted_304 : decode prog_14_method_57_code 304 = .ok (.iload 8, 2) := by decide +kernel
theorem d_Mod_substituted_306 : decode prog_14_method_57_code 306 = .ok (.aload_n 0, 1) := by decide +kernel
theorem d_Mod_substituted_307 : decode prog_14_method_57_code 307 = .ok (.getfield 136, 3) := by decide +kernel
theorem d_Mod_substituted_310 : decode prog_14_method_57_code 310 = .ok (.iload 8, 2) := by decide +kernel
theorem d_Mod_substituted_312 : decode prog_14_method_57_code 312 = .ok (.iaload, 1) := by decide +kernel
theorem d_Mod_substituted_313 : decode prog_14_method_57_code 313 = .ok (.iastore, 1) := by decide +kernel
theorem d_Mod_substituted_314 : decode prog_14_method_57_code 314 = .ok (.iinc 8 1, 3) := by decide +kernel
theorem d_Mod_substituted_317 : decode prog_14_method_57_code 317 = .ok (.goto (-26), 3) := by decide +kernel
theorem d_Mod_substituted_320 : decode prog_14_method_57_code 320 = .ok (.aload_n 0, 1) := by decide +kernel
theorem d_Mod_substituted_321 : decode prog_14_method_57_code 321 = .ok (.aload_n 0, 1) := by decide +kernel
theorem d_Mod_substituted_322 : decode prog_14_method_57_code 322 = .ok (.getfield 334, 3) := by decide +kernel
theorem d_Mod_substituted_325 : decode prog_14_method_57_code 325 = .ok (.putfield 319, 3) := by decide +kernel
theorem d_Mod_substituted_328 : decode prog_14_method_57_code 328 = .ok (.aload_n 0, 1) := by decide +kernel
theorem d_Mod_substituted_329 : decode prog_14_method_57_code 329 = .ok (.dup, 1) := by decide +kernel
theorem d_Mod_substituted_330 : decode prog_14_method_57_code 330 = .ok (.getfield 368, 3) := by decide +kernel
theorem d_Mod_substituted_333 : decode prog_14_method_57_code 333 = .ok (.iload 5, 2) := by decide +kernel
theorem d_Mod_substituted_335 : decode prog_14_method_57_code 335 = .ok (.iadd, 1) := by decide +kernel
theorem d_Mod_substituted_336 : decode prog_14_method_57_code 336 = .ok (.putfield 368, 3) := by decide +kernel
theorem d_Mod_substituted_339 : decode prog_14_method_57_code 339 = .ok (.aload_n 0, 1) := by decide +kernel
theorem d_Mod_substituted_340 : decode prog_14_method_57_code 340 = .ok (.iconst 1, 1) := by decide +kernel
theorem d_Mod_substituted_341 : decode prog_14_method_57_code 341 = .ok (.putfield 371, 3) := by decide +kernel
theorem d_Mod_substituted_344 : decode prog_14_method_57_code 344 = .ok (.aload_n 0, 1) := by decide +kernel
theorem d_Mod_substituted_345 : decode prog_14_method_57_code 345 = .ok (.getfield 66, 3) := by decide +kernel
theorem d_Mod_substituted_348 : decode prog_14_method_57_code 348 = .ok (.iload_n 1, 1) := by decide +kernel
theorem d_Mod_substituted_349 : decode prog_14_method_57_code 349 = .ok (.baload, 1) := by decide +kernel
theorem d_Mod_substituted_350 : decode prog_14_method_57_code 350 = .ok (.ifCond .eq 11, 3) := by decide +kernel
theorem d_Mod_substituted_353 : decode prog_14_method_57_code 353 = .ok (.aload_n 0, 1) := by decide +kernel
theorem d_Mod_substituted_354 : decode prog_14_method_57_code 354 = .ok (.iconst 0, 1) := by decide +kernel
theorem d_Mod_substituted_355 : decode prog_14_method_57_code 355 = .ok (.invokevirtual 374, 3) := by decide +kernel
theorem d_Mod_substituted_358 : decode prog_14_method_57_code 358 = .ok (.ifCond .eq 7, 3) := by decide +kernel
theorem d_Mod_substituted_361 : decode prog_14_method_57_code 361 = .ok (.iconst 1, 1) := by decide +kernel
theorem d_Mod_substituted_362 : decode prog_14_method_57_code 362 = .ok (.goto 4, 3) := by decide +kernel
theorem d_Mod_substituted_365 : decode prog_14_method_57_code 365 = .ok (.iconst 0, 1) := by decide +kernel
theorem d_Mod_substituted_366 : decode prog_14_method_57_code 366 = .ok (.ireturn, 1) := by decide +kernel
theorem d_Mod_exchanged_0 : decode prog_14_method_58_code 0 = .ok (.aload_n 0, 1) := by decide +kernel
theorem d_Mod_exchanged_1 : decode prog_14_method_58_code 1 = .ok (.getfield 47, 3) := by decide +kernel
theorem d_Mod_exchanged_4 : decode prog_14_method_58_code 4 = .ok (.iload_n 1, 1) := by decide +kernel
theorem d_Mod_exchanged_5 : decode prog_14_method_58_code 5 = .ok (.iaload, 1) := by decide +kernel
theorem d_Mod_exchanged_6 : decode prog_14_method_58_code 6 = .ok (.aload_n 0, 1) := by decide +kernel
theorem d_Mod_exchanged_7 : decode prog_14_method_58_code 7 = .ok (.getfield 41, 3) := by decide +kernel
theorem d_Mod_exchanged_10 : decode prog_14_method_58_code 10 = .ok (.iload_n 1, 1) := by decide +kernel
theorem d_Mod_exchanged_11 : decode prog_14_method_58_code 11 = .ok (.iaload, 1) := by decide +kernel
theorem d_Mod_exchanged_12 : decode prog_14_method_58_code 12 = .ok (.isub, 1) := by decide +kernel
theorem d_Mod_exchanged_13 : decode prog_14_method_58_code 13 = .ok (.istore_n 2, 1) := by decide +kernel
theorem d_Mod_exchanged_14 : decode prog_14_method_58_code 14 = .ok (.iconst 0, 1) := by decide +kernel
theorem d_Mod_exchanged_15 : decode prog_14_method_58_code 15 = .ok (.istore_n 3, 1) := by decide +kernel
theorem d_Mod_exchanged_16 : decode prog_14_method_58_code 16 = .ok (.iload_n 3, 1) := by decide +kernel
theorem d_Mod_exchanged_17 : decode prog_14_method_58_code 17 = .ok (.aload_n 0, 1) := by decide +kernel
theorem d_Mod_exchanged_18 : decode prog_14_method_58_code 18 = .ok (.getfield 319, 3) := by decide +kernel
theorem d_Mod_exchanged_21 : decode prog_14_method_58_code 21 = .ok (.if_icmp .ge 71, 3) := by decide +kernel
theorem d_Mod_exchanged_24 : decode prog_14_method_58_code 24 = .ok (.aload_n 0, 1) := by decide +kernel
theorem d_Mod_exchanged_25 : decode prog_14_method_58_code 25 = .ok (.getfield 130, 3) := by decide +kernel
theorem d_Mod_exchanged_28 : decode prog_14_method_58_code 28 = .ok (.iload_n 3, 1) := by decide +kernel
theorem d_Mod_exchanged_29 : decode prog_14_method_58_code 29 = .ok (.iaload, 1) := by decide +kernel
theorem d_Mod_exchanged_30 : decode prog_14_method_58_code 30 = .ok (.istore 4, 2) := by decide +kernel
theorem d_Mod_exchanged_32 : decode prog_14_method_58_code 32 = .ok (.iconst 0, 1) := by decide +kernel
theorem d_Mod_exchanged_33 : decode prog_14_method_58_code 33 = .ok (.istore 5, 2) := by decide +kernel
theorem d_Mod_exchanged_35 : decode prog_14_method_58_code 35 = .ok (.iload 5, 2) := by decide +kernel
theorem d_Mod_exchanged_37 : decode prog_14_method_58_code 37 = .ok (.iload_n 2, 1) := by decide +kernel
theorem d_Mod_exchanged_38 : decode prog_14_method_58_code 38 = .ok (.if_icmp .ge 48, 3) := by decide +kernel
theorem d_Mod_exchanged_41 : decode prog_14_method_58_code 41 = .ok (.aload_n 0, 1) := by decide +kernel
theorem d_Mod_exchanged_42 : decode prog_14_method_58_code 42 = .ok (.getfield 96, 3) := by decide +kernel
theorem d_Mod_exchanged_45 : decode prog_14_method_58_code 45 = .ok (.aload_n 0, 1) := by decide +kernel
theorem d_Mod_exchanged_46 : decode prog_14_method_58_code 46 = .ok (.getfield 41, 3) := by decide +kernel
theorem d_Mod_exchanged_49 : decode prog_14_method_58_code 49 = .ok (.iload_n 1, 1) := by decide +kernel
theorem d_Mod_exchanged_50 : decode prog_14_method_58_code 50 = .ok (.iaload, 1) := by decide +kernel
theorem d_Mod_exchanged_51 : decode prog_14_method_58_code 51 = .ok (.iload 5, 2) := by decide +kernel
theorem d_Mod_exchanged_53 : decode prog_14_method_58_code 53 = .ok (.iadd, 1) := by decide +kernel
theorem d_Mod_exchanged_54 : decode prog_14_method_58_code 54 = .ok (.iaload, 1) := by decide +kernel
theorem d_Mod_exchanged_55 : decode prog_14_method_58_code 55 = .ok (.iload 4, 2) := by decide +kernel
theorem d_Mod_exchanged_57 : decode prog_14_method_58_code 57 = .ok (.if_icmp .ne 23, 3) := by decide +kernel
theorem d_Mod_exchanged_60 : decode prog_14_method_58_code 60 = .ok (.aload_n 0, 1) := by decide +kernel
theorem d_Mod_exchanged_61 : decode prog_14_method_58_code 61 = .ok (.getfield 130, 3) := by decide +kernel
theorem d_Mod_exchanged_64 : decode prog_14_method_58_code 64 = .ok (.iload_n 3, 1) := by decide +kernel
theorem d_Mod_exchanged_65 : decode prog_14_method_58_code 65 = .ok (.aload_n 0, 1) := by decide +kernel
theorem d_Mod_exchanged_66 : decode prog_14_method_58_code 66 = .ok (.getfield 96, 3) := by decide +kernel
theorem d_Mod_exchanged_69 : decode prog_14_method_58_code 69 = .ok (.aload_n 0, 1) := by decide +kernel
theorem d_Mod_exchanged_70 : decode prog_14_method_58_code 70 = .ok (.getfield 47, 3) := by decide +kernel
theorem d_Mod_exchanged_73 : decode prog_14_method_58_code 73 = .ok (.iload_n 1, 1) := by decide +kernel
theorem d_Mod_exchanged_74 : decode prog_14_method_58_code 74 = .ok (.iaload, 1) := by decide +kernel
theorem d_Mod_exchanged_75 : decode prog_14_method_58_code 75 = .ok (.iload 5, 2) := by decide +kernel
theorem d_Mod_exchanged_77 : decode prog_14_method_58_code 77 = .ok (.iadd, 1) := by decide +kernel
theorem d_Mod_exchanged_78 : decode prog_14_method_58_code 78 = .ok (.iaload, 1) := by decide +kernel
theorem d_Mod_exchanged_79 : decode prog_14_method_58_code 79 = .ok (.iastore, 1) := by decide +kernel
theorem d_Mod_exchanged_80 : decode prog_14_method_58_code 80 = .ok (.iinc 5 1, 3) := by decide +kernel
theorem d_Mod_exchanged_83 : decode prog_14_method_58_code 83 = .ok (.goto (-48), 3) := by decide +kernel
theorem d_Mod_exchanged_86 : decode prog_14_method_58_code 86 = .ok (.iinc 3 1, 3) := by decide +kernel
theorem d_Mod_exchanged_89 : decode prog_14_method_58_code 89 = .ok (.goto (-73), 3) := by decide +kernel
theorem d_Mod_exchanged_92 : decode prog_14_method_58_code 92 = .ok (.return_, 1) := by decide +kernel
theorem d_Mod_append_0 : decode prog_14_method_59_code 0 = .ok (.aload_n 0, 1) := by decide +kernel
theorem d_Mod_append_1 : decode prog_14_method_59_code 1 = .ok (.getfield 44, 3) := by decide +kernel
theorem d_Mod_append_4 : decode prog_14_method_59_code 4 = .ok (.iload_n 1, 1) := by decide +kernel
theorem d_Mod_append_5 : decode prog_14_method_59_code 5 = .ok (.iaload, 1) := by decide +kernel
theorem d_Mod_append_6 : decode prog_14_method_59_code 6 = .ok (.aload_n 0, 1) := by decide +kernel
theorem d_Mod_append_7 : decode prog_14_method_59_code 7 = .ok (.getfield 41, 3) := by decide +kernel
theorem d_Mod_append_10 : decode prog_14_method_59_code 10 = .ok (.iload_n 1, 1) := by decide +kernel
theorem d_Mod_append_11 : decode prog_14_method_59_code 11 = .ok (.iaload, 1) := by decide +kernel
theorem d_Mod_append_12 : decode prog_14_method_59_code 12 = .ok (.isub, 1) := by decide +kernel
theorem d_Mod_append_13 : decode prog_14_method_59_code 13 = .ok (.iconst 1, 1) := by decide +kernel
theorem d_Mod_append_14 : decode prog_14_method_59_code 14 = .ok (.iadd, 1) := by decide +kernel
theorem d_Mod_append_15 : decode prog_14_method_59_code 15 = .ok (.istore_n 2, 1) := by decide +kernel
theorem d_Mod_append_16 : decode prog_14_method_59_code 16 = .ok (.aload_n 0, 1) := by decide +kernel
theorem d_Mod_append_17 : decode prog_14_method_59_code 17 = .ok (.getfield 343, 3) := by decide +kernel
theorem d_Mod_append_20 : decode prog_14_method_59_code 20 = .ok (.iload_n 2, 1) := by decide +kernel
theorem d_Mod_append_21 : decode prog_14_method_59_code 21 = .ok (.iadd, 1) := by decide +kernel
theorem d_Mod_append_22 : decode prog_14_method_59_code 22 = .ok (.sipush 200, 3) := by decide +kernel
theorem d_Mod_append_25 : decode prog_14_method_59_code 25 = .ok (.if_icmp .le 8, 3) := by decide +kernel
theorem d_Mod_append_28 : decode prog_14_method_59_code 28 = .ok (.aload_n 0, 1) := by decide +kernel
theorem d_Mod_append_29 : decode prog_14_method_59_code 29 = .ok (.invokevirtual 337, 3) := by decide +kernel
theorem d_Mod_append_32 : decode prog_14_method_59_code 32 = .ok (.ireturn, 1) := by decide +kernel
theorem d_Mod_append_33 : decode prog_14_method_59_code 33 = .ok (.aload_n 0, 1) := by decide +kernel
theorem d_Mod_append_34 : decode prog_14_method_59_code 34 = .ok (.getfield 41, 3) := by decide +kernel
theorem d_Mod_append_37 : decode prog_14_method_59_code 37 = .ok (.iload_n 1, 1) := by decide +kernel
theorem d_Mod_append_38 : decode prog_14_method_59_code 38 = .ok (.iaload, 1) := by decide +kernel
theorem d_Mod_append_39 : decode prog_14_method_59_code 39 = .ok (.istore_n 3, 1) := by decide +kernel
theorem d_Mod_append_40 : decode prog_14_method_59_code 40 = .ok (.iload_n 3, 1) := by decide +kernel
theorem d_Mod_append_41 : decode prog_14_method_59_code 41 = .ok (.aload_n 0, 1) := by decide +kernel
theorem d_Mod_append_42 : decode prog_14_method_59_code 42 = .ok (.getfield 44, 3) := by decide +kernel
theorem d_Mod_append_45 : decode prog_14_method_59_code 45 = .ok (.iload_n 1, 1) := by decide +kernel
theorem d_Mod_append_46 : decode prog_14_method_59_code 46 = .ok (.iaload, 1) := by decide +kernel
theorem d_Mod_append_47 : decode prog_14_method_59_code 47 = .ok (.if_icmp .ge 31, 3) := by decide +kernel
theorem d_Mod_append_50 : decode prog_14_method_59_code 50 = .ok (.aload_n 0, 1) := by decide +kernel
theorem d_Mod_append_51 : decode prog_14_method_59_code 51 = .ok (.getfield 139, 3) := by decide +kernel
theorem d_Mod_append_54 : decode prog_14_method_59_code 54 = .ok (.aload_n 0, 1) := by decide +kernel
theorem d_Mod_append_55 : decode prog_14_method_59_code 55 = .ok (.dup, 1) := by decide +kernel
theorem d_Mod_append_56 : decode prog_14_method_59_code 56 = .ok (.getfield 343, 3) := by decide +kernel
theorem d_Mod_append_59 : decode prog_14_method_59_code 59 = .ok (.dup_x1, 1) := by decide +kernel
theorem d_Mod_append_60 : decode prog_14_method_59_code 60 = .ok (.iconst 1, 1) := by decide +kernel
theorem d_Mod_append_61 : decode prog_14_method_59_code 61 = .ok (.iadd, 1) := by decide +kernel
theorem d_Mod_append_62 : decode prog_14_method_59_code 62 = .ok (.putfield 343, 3) := by decide +kernel
theorem d_Mod_append_65 : decode prog_14_method_59_code 65 = .ok (.aload_n 0, 1) := by decide +kernel
theorem d_Mod_append_66 : decode prog_14_method_59_code 66 = .ok (.getfield 96, 3) := by decide +kernel
theorem d_Mod_append_69 : decode prog_14_method_59_code 69 = .ok (.iload_n 3, 1) := by decide +kernel
theorem d_Mod_append_70 : decode prog_14_method_59_code 70 = .ok (.iaload, 1) := by decide +kernel
theorem d_Mod_append_71 : decode prog_14_method_59_code 71 = .ok (.iastore, 1) := by decide +kernel
theorem d_Mod_append_72 : decode prog_14_method_59_code 72 = .ok (.iinc 3 1, 3) := by decide +kernel
theorem d_Mod_append_75 : decode prog_14_method_59_code 75 = .ok (.goto (-35), 3) := by decide +kernel
theorem d_Mod_append_78 : decode prog_14_method_59_code 78 = .ok (.aload_n 0, 1) := by decide +kernel
theorem d_Mod_append_79 : decode prog_14_method_59_code 79 = .ok (.getfield 139, 3) := by decide +kernel
theorem d_Mod_append_82 : decode prog_14_method_59_code 82 = .ok (.aload_n 0, 1) := by decide +kernel
theorem d_Mod_append_83 : decode prog_14_method_59_code 83 = .ok (.dup, 1) := by decide +kernel
theorem d_Mod_append_84 : decode prog_14_method_59_code 84 = .ok (.getfield 343, 3) := by decide +kernel
theorem d_Mod_append_87 : decode prog_14_method_59_code 87 = .ok (.dup_x1, 1) := by decide +kernel
theorem d_Mod_append_88 : decode prog_14_method_59_code 88 = .ok (.iconst 1, 1) := by decide +kernel
theorem d_Mod_append_89 : decode prog_14_method_59_code 89 = .ok (.iadd, 1) := by decide +kernel
theorem d_Mod_append_90 : decode prog_14_method_59_code 90 = .ok (.putfield 343, 3) := by decide +kernel
theorem d_Mod_append_93 : decode prog_14_method_59_code 93 = .ok (.bipush 10, 2) := by decide +kernel
theorem d_Mod_append_95 : decode prog_14_method_59_code 95 = .ok (.iastore, 1) := by decide +kernel
theorem d_Mod_append_96 : decode prog_14_method_59_code 96 = .ok (.iconst 1, 1) := by decide +kernel
theorem d_Mod_append_97 : decode prog_14_method_59_code 97 = .ok (.ireturn, 1) := by decide +kernel
theorem d_Mod_holds_0 : decode prog_14_method_60_code 0 = .ok (.iload_n 1, 1) := by decide +kernel
theorem d_Mod_holds_1 : decode prog_14_method_60_code 1 = .ok (.bipush 104, 2) := by decide +kernel
theorem d_Mod_holds_3 : decode prog_14_method_60_code 3 = .ok (.if_icmp .ne 42, 3) := by decide +kernel
theorem d_Mod_holds_6 : decode prog_14_method_60_code 6 = .ok (.iconst 0, 1) := by decide +kernel
theorem d_Mod_holds_7 : decode prog_14_method_60_code 7 = .ok (.istore_n 2, 1) := by decide +kernel
theorem d_Mod_holds_8 : decode prog_14_method_60_code 8 = .ok (.iload_n 2, 1) := by decide +kernel
theorem d_Mod_holds_9 : decode prog_14_method_60_code 9 = .ok (.aload_n 0, 1) := by decide +kernel
theorem d_Mod_holds_10 : decode prog_14_method_60_code 10 = .ok (.getfield 319, 3) := by decide +kernel
theorem d_Mod_holds_13 : decode prog_14_method_60_code 13 = .ok (.if_icmp .ge 21, 3) := by decide +kernel
theorem d_Mod_holds_16 : decode prog_14_method_60_code 16 = .ok (.aload_n 0, 1) := by decide +kernel
theorem d_Mod_holds_17 : decode prog_14_method_60_code 17 = .ok (.getfield 133, 3) := by decide +kernel
theorem d_Mod_holds_20 : decode prog_14_method_60_code 20 = .ok (.iload_n 2, 1) := by decide +kernel
theorem d_Mod_holds_21 : decode prog_14_method_60_code 21 = .ok (.aload_n 0, 1) := by decide +kernel
theorem d_Mod_holds_22 : decode prog_14_method_60_code 22 = .ok (.getfield 130, 3) := by decide +kernel
theorem d_Mod_holds_25 : decode prog_14_method_60_code 25 = .ok (.iload_n 2, 1) := by decide +kernel
theorem d_Mod_holds_26 : decode prog_14_method_60_code 26 = .ok (.iaload, 1) := by decide +kernel
theorem d_Mod_holds_27 : decode prog_14_method_60_code 27 = .ok (.iastore, 1) := by decide +kernel
theorem d_Mod_holds_28 : decode prog_14_method_60_code 28 = .ok (.iinc 2 1, 3) := by decide +kernel
theorem d_Mod_holds_31 : decode prog_14_method_60_code 31 = .ok (.goto (-23), 3) := by decide +kernel
theorem d_Mod_holds_34 : decode prog_14_method_60_code 34 = .ok (.aload_n 0, 1) := by decide +kernel
theorem d_Mod_holds_35 : decode prog_14_method_60_code 35 = .ok (.aload_n 0, 1) := by decide +kernel
theorem d_Mod_holds_36 : decode prog_14_method_60_code 36 = .ok (.getfield 319, 3) := by decide +kernel
theorem d_Mod_holds_39 : decode prog_14_method_60_code 39 = .ok (.putfield 378, 3) := by decide +kernel
theorem d_Mod_holds_42 : decode prog_14_method_60_code 42 = .ok (.goto 267, 3) := by decide +kernel
theorem d_Mod_holds_45 : decode prog_14_method_60_code 45 = .ok (.iload_n 1, 1) := by decide +kernel
theorem d_Mod_holds_46 : decode prog_14_method_60_code 46 = .ok (.bipush 103, 2) := by decide +kernel
theorem d_Mod_holds_48 : decode prog_14_method_60_code 48 = .ok (.if_icmp .ne 42, 3) := by decide +kernel
theorem d_Mod_holds_51 : decode prog_14_method_60_code 51 = .ok (.iconst 0, 1) := by decide +kernel
theorem d_Mod_holds_52 : decode prog_14_method_60_code 52 = .ok (.istore_n 2, 1) := by decide +kernel
theorem d_Mod_holds_53 : decode prog_14_method_60_code 53 = .ok (.iload_n 2, 1) := by decide +kernel
theorem d_Mod_holds_54 : decode prog_14_method_60_code 54 = .ok (.aload_n 0, 1) := by decide +kernel
theorem d_Mod_holds_55 : decode prog_14_method_60_code 55 = .ok (.getfield 378, 3) := by decide +kernel
theorem d_Mod_holds_58 : decode prog_14_method_60_code 58 = .ok (.if_icmp .ge 21, 3) := by decide +kernel
theorem d_Mod_holds_61 : decode prog_14_method_60_code 61 = .ok (.aload_n 0, 1) := by decide +kernel
theorem d_Mod_holds_62 : decode prog_14_method_60_code 62 = .ok (.getfield 130, 3) := by decide +kernel
theorem d_Mod_holds_65 : decode prog_14_method_60_code 65 = .ok (.iload_n 2, 1) := by decide +kernel
theorem d_Mod_holds_66 : decode prog_14_method_60_code 66 = .ok (.aload_n 0, 1) := by decide +kernel
theorem d_Mod_holds_67 : decode prog_14_method_60_code 67 = .ok (.getfield 133, 3) := by decide +kernel
theorem d_Mod_holds_70 : decode prog_14_method_60_code 70 = .ok (.iload_n 2, 1) := by decide +kernel
theorem d_Mod_holds_71 : decode prog_14_method_60_code 71 = .ok (.iaload, 1) := by decide +kernel
theorem d_Mod_holds_72 : decode prog_14_method_60_code 72 = .ok (.iastore, 1) := by decide +kernel
theorem d_Mod_holds_73 : decode prog_14_method_60_code 73 = .ok (.iinc 2 1, 3) := by decide +kernel
theorem d_Mod_holds_76 : decode prog_14_method_60_code 76 = .ok (.goto (-23), 3) := by decide +kernel
theorem d_Mod_holds_79 : decode prog_14_method_60_code 79 = .ok (.aload_n 0, 1) := by decide +kernel
theorem d_Mod_holds_80 : decode prog_14_method_60_code 80 = .ok (.aload_n 0, 1) := by decide +kernel
theorem d_Mod_holds_81 : decode prog_14_method_60_code 81 = .ok (.getfield 378, 3) := by decide +kernel
theorem d_Mod_holds_84 : decode prog_14_method_60_code 84 = .ok (.putfield 319, 3) := by decide +kernel
theorem d_Mod_holds_87 : decode prog_14_method_60_code 87 = .ok (.goto 222, 3) := by decide +kernel
theorem d_Mod_holds_90 : decode prog_14_method_60_code 90 = .ok (.iload_n 1, 1) := by decide +kernel
theorem d_Mod_holds_91 : decode prog_14_method_60_code 91 = .ok (.bipush 120, 2) := by decide +kernel
theorem d_Mod_holds_93 : decode prog_14_method_60_code 93 = .ok (.if_icmp .ne 64, 3) := by decide +kernel
theorem d_Mod_holds_96 : decode prog_14_method_60_code 96 = .ok (.iconst 0, 1) := by decide +kernel
theorem d_Mod_holds_97 : decode prog_14_method_60_code 97 = .ok (.istore_n 2, 1) := by decide +kernel
theorem d_Mod_holds_98 : decode prog_14_method_60_code 98 = .ok (.iload_n 2, 1) := by decide +kernel
theorem d_Mod_holds_99 : decode prog_14_method_60_code 99 = .ok (.bipush 64, 2) := by decide +kernel
theorem d_Mod_holds_101 : decode prog_14_method_60_code 101 = .ok (.if_icmp .ge 35, 3) := by decide +kernel
theorem d_Mod_holds_104 : decode prog_14_method_60_code 104 = .ok (.aload_n 0, 1) := by decide +kernel
theorem d_Mod_holds_105 : decode prog_14_method_60_code 105 = .ok (.getfield 130, 3) := by decide +kernel
theorem d_Mod_holds_108 : decode prog_14_method_60_code 108 = .ok (.iload_n 2, 1) := by decide +kernel
theorem d_Mod_holds_109 : decode prog_14_method_60_code 109 = .ok (.iaload, 1) := by decide +kernel
theorem d_Mod_holds_110 : decode prog_14_method_60_code 110 = .ok (.istore_n 3, 1) := by decide +kernel
theorem d_Mod_holds_111 : decode prog_14_method_60_code 111 = .ok (.aload_n 0, 1) := by decide +kernel
theorem d_Mod_holds_112 : decode prog_14_method_60_code 112 = .ok (.getfield 130, 3) := by decide +kernel
theorem d_Mod_holds_115 : decode prog_14_method_60_code 115 = .ok (.iload_n 2, 1) := by decide +kernel
theorem d_Mod_holds_116 : decode prog_14_method_60_code 116 = .ok (.aload_n 0, 1) := by decide +kernel
theorem d_Mod_holds_117 : decode prog_14_method_60_code 117 = .ok (.getfield 133, 3) := by decide +kernel
theorem d_Mod_holds_120 : decode prog_14_method_60_code 120 = .ok (.iload_n 2, 1) := by decide +kernel
theorem d_Mod_holds_121 : decode prog_14_method_60_code 121 = .ok (.iaload, 1) := by decide +kernel
theorem d_Mod_holds_122 : decode prog_14_method_60_code 122 = .ok (.iastore, 1) := by decide +kernel
theorem d_Mod_holds_123 : decode prog_14_method_60_code 123 = .ok (.aload_n 0, 1) := by decide +kernel
theorem d_Mod_holds_124 : decode prog_14_method_60_code 124 = .ok (.getfield 133, 3) := by decide +kernel
theorem d_Mod_holds_127 : decode prog_14_method_60_code 127 = .ok (.iload_n 2, 1) := by decide +kernel
theorem d_Mod_holds_128 : decode prog_14_method_60_code 128 = .ok (.iload_n 3, 1) := by decide +kernel
theorem d_Mod_holds_129 : decode prog_14_method_60_code 129 = .ok (.iastore, 1) := by decide +kernel
theorem d_Mod_holds_130 : decode prog_14_method_60_code 130 = .ok (.iinc 2 1, 3) := by decide +kernel
theorem d_Mod_holds_133 : decode prog_14_method_60_code 133 = .ok (.goto (-35), 3) := by decide +kernel
theorem d_Mod_holds_136 : decode prog_14_method_60_code 136 = .ok (.aload_n 0, 1) := by decide +kernel
theorem d_Mod_holds_137 : decode prog_14_method_60_code 137 = .ok (.getfield 319, 3) := by decide +kernel
theorem d_Mod_holds_140 : decode prog_14_method_60_code 140 = .ok (.istore_n 2, 1) := by decide +kernel
theorem d_Mod_holds_141 : decode prog_14_method_60_code 141 = .ok (.aload_n 0, 1) := by decide +kernel
theorem d_Mod_holds_142 : decode prog_14_method_60_code 142 = .ok (.aload_n 0, 1) := by decide +kernel
theorem d_Mod_holds_143 : decode prog_14_method_60_code 143 = .ok (.getfield 378, 3) := by decide +kernel
theorem d_Mod_holds_146 : decode prog_14_method_60_code 146 = .ok (.putfield 319, 3) := by decide +kernel
theorem d_Mod_holds_149 : decode prog_14_method_60_code 149 = .ok (.aload_n 0, 1) := by decide +kernel
theorem d_Mod_holds_150 : decode prog_14_method_60_code 150 = .ok (.iload_n 2, 1) := by decide +kernel
theorem d_Mod_holds_151 : decode prog_14_method_60_code 151 = .ok (.putfield 378, 3) := by decide +kernel
theorem d_Mod_holds_154 : decode prog_14_method_60_code 154 = .ok (.goto 155, 3) := by decide +kernel
theorem d_Mod_holds_157 : decode prog_14_method_60_code 157 = .ok (.aload_n 0, 1) := by decide +kernel
theorem d_Mod_holds_158 : decode prog_14_method_60_code 158 = .ok (.getfield 319, 3) := by decide +kernel
theorem d_Mod_holds_161 : decode prog_14_method_60_code 161 = .ok (.aload_n 0, 1) := by decide +kernel
theorem d_Mod_holds_162 : decode prog_14_method_60_code 162 = .ok (.getfield 378, 3) := by decide +kernel
theorem d_Mod_holds_165 : decode prog_14_method_60_code 165 = .ok (.iadd, 1) := by decide +kernel
theorem d_Mod_holds_166 : decode prog_14_method_60_code 166 = .ok (.iconst 1, 1) := by decide +kernel
theorem d_Mod_holds_167 : decode prog_14_method_60_code 167 = .ok (.iadd, 1) := by decide +kernel
theorem d_Mod_holds_168 : decode prog_14_method_60_code 168 = .ok (.bipush 60, 2) := by decide +kernel
theorem d_Mod_holds_170 : decode prog_14_method_60_code 170 = .ok (.if_icmp .le 8, 3) := by decide +kernel
theorem d_Mod_holds_173 : decode prog_14_method_60_code 173 = .ok (.aload_n 0, 1) := by decide +kernel
theorem d_Mod_holds_174 : decode prog_14_method_60_code 174 = .ok (.invokevirtual 337, 3) := by decide +kernel
theorem d_Mod_holds_177 : decode prog_14_method_60_code 177 = .ok (.ireturn, 1) := by decide +kernel
theorem d_Mod_holds_178 : decode prog_14_method_60_code 178 = .ok (.iload_n 1, 1) := by decide +kernel
theorem d_Mod_holds_179 : decode prog_14_method_60_code 179 = .ok (.bipush 72, 2) := by decide +kernel
theorem d_Mod_holds_181 : decode prog_14_method_60_code 181 = .ok (.if_icmp .ne 67, 3) := by decide +kernel
theorem d_Mod_holds_184 : decode prog_14_method_60_code 184 = .ok (.aload_n 0, 1) := by decide +kernel
theorem d_Mod_holds_185 : decode prog_14_method_60_code 185 = .ok (.getfield 133, 3) := by decide +kernel
theorem d_Mod_holds_188 : decode prog_14_method_60_code 188 = .ok (.aload_n 0, 1) := by decide +kernel
theorem d_Mod_holds_189 : decode prog_14_method_60_code 189 = .ok (.getfield 378, 3) := by decide +kernel
theorem d_Mod_holds_192 : decode prog_14_method_60_code 192 = .ok (.bipush 10, 2) := by decide +kernel
theorem d_Mod_holds_194 : decode prog_14_method_60_code 194 = .ok (.iastore, 1) := by decide +kernel
theorem d_Mod_holds_195 : decode prog_14_method_60_code 195 = .ok (.iconst 0, 1) := by decide +kernel
theorem d_Mod_holds_196 : decode prog_14_method_60_code 196 = .ok (.istore_n 2, 1) := by decide +kernel
theorem d_Mod_holds_197 : decode prog_14_method_60_code 197 = .ok (.iload_n 2, 1) := by decide +kernel
theorem d_Mod_holds_198 : decode prog_14_method_60_code 198 = .ok (.aload_n 0, 1) := by decide +kernel
theorem d_Mod_holds_199 : decode prog_14_method_60_code 199 = .ok (.getfield 319, 3) := by decide +kernel
theorem d_Mod_holds_202 : decode prog_14_method_60_code 202 = .ok (.if_icmp .ge 28, 3) := by decide +kernel
theorem d_Mod_holds_205 : decode prog_14_method_60_code 205 = .ok (.aload_n 0, 1) := by decide +kernel
theorem d_Mod_holds_206 : decode prog_14_method_60_code 206 = .ok (.getfield 133, 3) := by decide +kernel
theorem d_Mod_holds_209 : decode prog_14_method_60_code 209 = .ok (.aload_n 0, 1) := by decide +kernel
theorem d_Mod_holds_210 : decode prog_14_method_60_code 210 = .ok (.getfield 378, 3) := by decide +kernel
theorem d_Mod_holds_213 : decode prog_14_method_60_code 213 = .ok (.iconst 1, 1) := by decide +kernel
theorem d_Mod_holds_214 : decode prog_14_method_60_code 214 = .ok (.iadd, 1) := by decide +kernel
theorem d_Mod_holds_215 : decode prog_14_method_60_code 215 = .ok (.iload_n 2, 1) := by decide +kernel
theorem d_Mod_holds_216 : decode prog_14_method_60_code 216 = .ok (.iadd, 1) := by decide +kernel
theorem d_Mod_holds_217 : decode prog_14_method_60_code 217 = .ok (.aload_n 0, 1) := by decide +kernel
theorem d_Mod_holds_218 : decode prog_14_method_60_code 218 = .ok (.getfield 130, 3) := by decide +kernel
theorem d_Mod_holds_221 : decode prog_14_method_60_code 221 = .ok (.iload_n 2, 1) := by decide +kernel
theorem d_Mod_holds_222 : decode prog_14_method_60_code 222 = .ok (.iaload, 1) := by decide +kernel
theorem d_Mod_holds_223 : decode prog_14_method_60_code 223 = .ok (.iastore, 1) := by decide +kernel
theorem d_Mod_holds_224 : decode prog_14_method_60_code 224 = .ok (.iinc 2 1, 3) := by decide +kernel
theorem d_Mod_holds_227 : decode prog_14_method_60_code 227 = .ok (.goto (-30), 3) := by decide +kernel
theorem d_Mod_holds_230 : decode prog_14_method_60_code 230 = .ok (.aload_n 0, 1) := by decide +kernel
theorem d_Mod_holds_231 : decode prog_14_method_60_code 231 = .ok (.dup, 1) := by decide +kernel
theorem d_Mod_holds_232 : decode prog_14_method_60_code 232 = .ok (.getfield 378, 3) := by decide +kernel
theorem d_Mod_holds_235 : decode prog_14_method_60_code 235 = .ok (.aload_n 0, 1) := by decide +kernel
theorem d_Mod_holds_236 : decode prog_14_method_60_code 236 = .ok (.getfield 319, 3) := by decide +kernel
theorem d_Mod_holds_239 : decode prog_14_method_60_code 239 = .ok (.iconst 1, 1) := by decide +kernel
theorem d_Mod_holds_240 : decode prog_14_method_60_code 240 = .ok (.iadd, 1) := by decide +kernel
theorem d_Mod_holds_241 : decode prog_14_method_60_code 241 = .ok (.iadd, 1) := by decide +kernel
theorem d_Mod_holds_242 : decode prog_14_method_60_code 242 = .ok (.putfield 378, 3) := by decide +kernel
theorem d_Mod_holds_245 : decode prog_14_method_60_code 245 = .ok (.goto 64, 3) := by decide +kernel
theorem d_Mod_holds_248 : decode prog_14_method_60_code 248 = .ok (.aload_n 0, 1) := by decide +kernel
theorem d_Mod_holds_249 : decode prog_14_method_60_code 249 = .ok (.getfield 130, 3) := by decide +kernel
theorem d_Mod_holds_252 : decode prog_14_method_60_code 252 = .ok (.aload_n 0, 1) := by decide +kernel
theorem d_Mod_holds_253 : decode prog_14_method_60_code 253 = .ok (.getfield 319, 3) := by decide +kernel
theorem d_Mod_holds_256 : decode prog_14_method_60_code 256 = .ok (.bipush 10, 2) := by decide +kernel
theorem d_Mod_holds_258 : decode prog_14_method_60_code 258 = .ok (.iastore, 1) := by decide +kernel
theorem d_Mod_holds_259 : decode prog_14_method_60_code 259 = .ok (.iconst 0, 1) := by decide +kernel
theorem d_Mod_holds_260 : decode prog_14_method_60_code 260 = .ok (.istore_n 2, 1) := by decide +kernel
theorem d_Mod_holds_261 : decode prog_14_method_60_code 261 = .ok (.iload_n 2, 1) := by decide +kernel
theorem d_Mod_holds_262 : decode prog_14_method_60_code 262 = .ok (.aload_n 0, 1) := by decide +kernel
theorem d_Mod_holds_263 : decode prog_14_method_60_code 263 = .ok (.getfield 378, 3) := by decide +kernel
theorem d_Mod_holds_266 : decode prog_14_method_60_code 266 = .ok (.if_icmp .ge 28, 3) := by decide +kernel
theorem d_Mod_holds_269 : decode prog_14_method_60_code 269 = .ok (.aload_n 0, 1) := by decide +kernel
theorem d_Mod_holds_270 : decode prog_14_method_60_code 270 = .ok (.getfield 130, 3) := by decide +kernel
theorem d_Mod_holds_273 : decode prog_14_method_60_code 273 = .ok (.aload_n 0, 1) := by decide +kernel
theorem d_Mod_holds_274 : decode prog_14_method_60_code 274 = .ok (.getfield 319, 3) := by decide +kernel
theorem d_Mod_holds_277 : decode prog_14_method_60_code 277 = .ok (.iconst 1, 1) := by decide +kernel
theorem d_Mod_holds_278 : decode prog_14_method_60_code 278 = .ok (.iadd, 1) := by decide +kernel
theorem d_Mod_holds_279 : decode prog_14_method_60_code 279 = .ok (.iload_n 2, 1) := by decide +kernel
theorem d_Mod_holds_280 : decode prog_14_method_60_code 280 = .ok (.iadd, 1) := by decide +kernel
theorem d_Mod_holds_281 : decode prog_14_method_60_code 281 = .ok (.aload_n 0, 1) := by decide +kernel
theorem d_Mod_holds_282 : decode prog_14_method_60_code 282 = .ok (.getfield 133, 3) := by decide +kernel
theorem d_Mod_holds_285 : decode prog_14_method_60_code 285 = .ok (.iload_n 2, 1) := by decide +kernel
theorem d_Mod_holds_286 : decode prog_14_method_60_code 286 = .ok (.iaload, 1) := by decide +kernel
theorem d_Mod_holds_287 : decode prog_14_method_60_code 287 = .ok (.iastore, 1) := by decide +kernel
theorem d_Mod_holds_288 : decode prog_14_method_60_code 288 = .ok (.iinc 2 1, 3) := by decide +kernel
theorem d_Mod_holds_291 : decode prog_14_method_60_code 291 = .ok (.goto (-30), 3) := by decide +kernel
theorem d_Mod_holds_294 : decode prog_14_method_60_code 294 = .ok (.aload_n 0, 1) := by decide +kernel
theorem d_Mod_holds_295 : decode prog_14_method_60_code 295 = .ok (.dup, 1) := by decide +kernel
theorem d_Mod_holds_296 : decode prog_14_method_60_code 296 = .ok (.getfield 319, 3) := by decide +kernel
theorem d_Mod_holds_299 : decode prog_14_method_60_code 299 = .ok (.aload_n 0, 1) := by decide +kernel
theorem d_Mod_holds_300 : decode prog_14_method_60_code 300 = .ok (.getfield 378, 3) := by decide +kernel
theorem d_Mod_holds_303 : decode prog_14_method_60_code 303 = .ok (.iconst 1, 1) := by decide +kernel
theorem d_Mod_holds_304 : decode prog_14_method_60_code 304 = .ok (.iadd, 1) := by decide +kernel
theorem d_Mod_holds_305 : decode prog_14_method_60_code 305 = .ok (.iadd, 1) := by decide +kernel
theorem d_Mod_holds_306 : decode prog_14_method_60_code 306 = .ok (.putfield 319, 3) := by decide +kernel
theorem d_Mod_holds_309 : decode prog_14_method_60_code 309 = .ok (.iconst 1, 1) := by decide +kernel
theorem d_Mod_holds_310 : decode prog_14_method_60_code 310 = .ok (.ireturn, 1) := by decide +kernel
theorem d_Mod_endCycle_0 : decode prog_14_method_61_code 0 = .ok (.iload_n 1, 1) := by decide +kernel
theorem d_Mod_endCycle_1 : decode prog_14_method_61_code 1 = .ok (.ifCond .eq 11, 3) := by decide +kernel
theorem d_Mod_endCycle_4 : decode prog_14_method_61_code 4 = .ok (.aload_n 0, 1) := by decide +kernel
theorem d_Mod_endCycle_5 : decode prog_14_method_61_code 5 = .ok (.iconst 0, 1) := by decide +kernel
theorem d_Mod_endCycle_6 : decode prog_14_method_61_code 6 = .ok (.invokevirtual 374, 3) := by decide +kernel
theorem d_Mod_endCycle_9 : decode prog_14_method_61_code 9 = .ok (.ifCond .eq 14, 3) := by decide +kernel
theorem d_Mod_endCycle_12 : decode prog_14_method_61_code 12 = .ok (.aload_n 0, 1) := by decide +kernel
theorem d_Mod_endCycle_13 : decode prog_14_method_61_code 13 = .ok (.invokevirtual 381, 3) := by decide +kernel
theorem d_Mod_endCycle_16 : decode prog_14_method_61_code 16 = .ok (.ifCond .eq 7, 3) := by decide +kernel
theorem d_Mod_endCycle_19 : decode prog_14_method_61_code 19 = .ok (.iconst 1, 1) := by decide +kernel
theorem d_Mod_endCycle_20 : decode prog_14_method_61_code 20 = .ok (.goto 4, 3) := by decide +kernel
theorem d_Mod_endCycle_23 : decode prog_14_method_61_code 23 = .ok (.iconst 0, 1) := by decide +kernel
theorem d_Mod_endCycle_24 : decode prog_14_method_61_code 24 = .ok (.istore_n 2, 1) := by decide +kernel
theorem d_Mod_endCycle_25 : decode prog_14_method_61_code 25 = .ok (.iload_n 2, 1) := by decide +kernel
theorem d_Mod_endCycle_26 : decode prog_14_method_61_code 26 = .ok (.ifCond .ne 5, 3) := by decide +kernel
theorem d_Mod_endCycle_29 : decode prog_14_method_61_code 29 = .ok (.iconst 0, 1) := by decide +kernel
theorem d_Mod_endCycle_30 : decode prog_14_method_61_code 30 = .ok (.ireturn, 1) := by decide +kernel
theorem d_Mod_endCycle_31 : decode prog_14_method_61_code 31 = .ok (.aload_n 0, 1) := by decide +kernel
theorem d_Mod_endCycle_32 : decode prog_14_method_61_code 32 = .ok (.getfield 346, 3) := by decide +kernel
theorem d_Mod_endCycle_35 : decode prog_14_method_61_code 35 = .ok (.aload_n 0, 1) := by decide +kernel
theorem d_Mod_endCycle_36 : decode prog_14_method_61_code 36 = .ok (.getfield 169, 3) := by decide +kernel
theorem d_Mod_endCycle_39 : decode prog_14_method_61_code 39 = .ok (.if_icmp .ne 11, 3) := by decide +kernel
theorem d_Mod_endCycle_42 : decode prog_14_method_61_code 42 = .ok (.aload_n 0, 1) := by decide +kernel
theorem d_Mod_endCycle_43 : decode prog_14_method_61_code 43 = .ok (.iconst 1, 1) := by decide +kernel
theorem d_Mod_endCycle_44 : decode prog_14_method_61_code 44 = .ok (.putfield 328, 3) := by decide +kernel
theorem d_Mod_endCycle_47 : decode prog_14_method_61_code 47 = .ok (.goto 22, 3) := by decide +kernel
theorem d_Mod_endCycle_50 : decode prog_14_method_61_code 50 = .ok (.aload_n 0, 1) := by decide +kernel
theorem d_Mod_endCycle_51 : decode prog_14_method_61_code 51 = .ok (.invokevirtual 384, 3) := by decide +kernel
theorem d_Mod_endCycle_54 : decode prog_14_method_61_code 54 = .ok (.aload_n 0, 1) := by decide +kernel
theorem d_Mod_endCycle_55 : decode prog_14_method_61_code 55 = .ok (.dup, 1) := by decide +kernel
theorem d_Mod_endCycle_56 : decode prog_14_method_61_code 56 = .ok (.getfield 387, 3) := by decide +kernel
theorem d_Mod_endCycle_59 : decode prog_14_method_61_code 59 = .ok (.iconst 1, 1) := by decide +kernel
theorem d_Mod_endCycle_60 : decode prog_14_method_61_code 60 = .ok (.iadd, 1) := by decide +kernel
theorem d_Mod_endCycle_61 : decode prog_14_method_61_code 61 = .ok (.putfield 387, 3) := by decide +kernel
theorem d_Mod_endCycle_64 : decode prog_14_method_61_code 64 = .ok (.aload_n 0, 1) := by decide +kernel
theorem d_Mod_endCycle_65 : decode prog_14_method_61_code 65 = .ok (.iconst 0, 1) := by decide +kernel
theorem d_Mod_endCycle_66 : decode prog_14_method_61_code 66 = .ok (.putfield 371, 3) := by decide +kernel
theorem d_Mod_endCycle_69 : decode prog_14_method_61_code 69 = .ok (.iconst 0, 1) := by decide +kernel
theorem d_Mod_endCycle_70 : decode prog_14_method_61_code 70 = .ok (.ireturn, 1) := by decide +kernel
theorem d_Mod_nextLine_0 : decode prog_14_method_62_code 0 = .ok (.aload_n 0, 1) := by decide +kernel
theorem d_Mod_nextLine_1 : decode prog_14_method_62_code 1 = .ok (.getfield 346, 3) := by decide +kernel
theorem d_Mod_nextLine_4 : decode prog_14_method_62_code 4 = .ok (.aload_n 0, 1) := by decide +kernel
theorem d_Mod_nextLine_5 : decode prog_14_method_62_code 5 = .ok (.getfield 169, 3) := by decide +kernel
theorem d_Mod_nextLine_8 : decode prog_14_method_62_code 8 = .ok (.if_icmp .ne 16, 3) := by decide +kernel
theorem d_Mod_nextLine_11 : decode prog_14_method_62_code 11 = .ok (.aload_n 0, 1) := by decide +kernel
theorem d_Mod_nextLine_12 : decode prog_14_method_62_code 12 = .ok (.iconst 1, 1) := by decide +kernel
theorem d_Mod_nextLine_13 : decode prog_14_method_62_code 13 = .ok (.invokevirtual 390, 3) := by decide +kernel
theorem d_Mod_nextLine_16 : decode prog_14_method_62_code 16 = .ok (.pop, 1) := by decide +kernel
theorem d_Mod_nextLine_17 : decode prog_14_method_62_code 17 = .ok (.aload_n 0, 1) := by decide +kernel
theorem d_Mod_nextLine_18 : decode prog_14_method_62_code 18 = .ok (.iconst 1, 1) := by decide +kernel
theorem d_Mod_nextLine_19 : decode prog_14_method_62_code 19 = .ok (.putfield 328, 3) := by decide +kernel
theorem d_Mod_nextLine_22 : decode prog_14_method_62_code 22 = .ok (.iconst 0, 1) := by decide +kernel
theorem d_Mod_nextLine_23 : decode prog_14_method_62_code 23 = .ok (.ireturn, 1) := by decide +kernel
theorem d_Mod_nextLine_24 : decode prog_14_method_62_code 24 = .ok (.aload_n 0, 1) := by decide +kernel
theorem d_Mod_nextLine_25 : decode prog_14_method_62_code 25 = .ok (.getfield 23, 3) := by decide +kernel
theorem d_Mod_nextLine_28 : decode prog_14_method_62_code 28 = .ok (.iload_n 1, 1) := by decide +kernel
theorem d_Mod_nextLine_29 : decode prog_14_method_62_code 29 = .ok (.iaload, 1) := by decide +kernel
theorem d_Mod_nextLine_30 : decode prog_14_method_62_code 30 = .ok (.bipush 110, 2) := by decide +kernel
theorem d_Mod_nextLine_32 : decode prog_14_method_62_code 32 = .ok (.if_icmp .ne 36, 3) := by decide +kernel
theorem d_Mod_nextLine_35 : decode prog_14_method_62_code 35 = .ok (.aload_n 0, 1) := by decide +kernel
theorem d_Mod_nextLine_36 : decode prog_14_method_62_code 36 = .ok (.iconst 0, 1) := by decide +kernel
theorem d_Mod_nextLine_37 : decode prog_14_method_62_code 37 = .ok (.invokevirtual 374, 3) := by decide +kernel
theorem d_Mod_nextLine_40 : decode prog_14_method_62_code 40 = .ok (.ifCond .eq 14, 3) := by decide +kernel
theorem d_Mod_nextLine_43 : decode prog_14_method_62_code 43 = .ok (.aload_n 0, 1) := by decide +kernel
theorem d_Mod_nextLine_44 : decode prog_14_method_62_code 44 = .ok (.invokevirtual 381, 3) := by decide +kernel
theorem d_Mod_nextLine_47 : decode prog_14_method_62_code 47 = .ok (.ifCond .eq 7, 3) := by decide +kernel
theorem d_Mod_nextLine_50 : decode prog_14_method_62_code 50 = .ok (.iconst 1, 1) := by decide +kernel
theorem d_Mod_nextLine_51 : decode prog_14_method_62_code 51 = .ok (.goto 4, 3) := by decide +kernel
theorem d_Mod_nextLine_54 : decode prog_14_method_62_code 54 = .ok (.iconst 0, 1) := by decide +kernel
theorem d_Mod_nextLine_55 : decode prog_14_method_62_code 55 = .ok (.istore_n 3, 1) := by decide +kernel
theorem d_Mod_nextLine_56 : decode prog_14_method_62_code 56 = .ok (.iload_n 3, 1) := by decide +kernel
theorem d_Mod_nextLine_57 : decode prog_14_method_62_code 57 = .ok (.ifCond .eq 7, 3) := by decide +kernel
theorem d_Mod_nextLine_60 : decode prog_14_method_62_code 60 = .ok (.aload_n 0, 1) := by decide +kernel
theorem d_Mod_nextLine_61 : decode prog_14_method_62_code 61 = .ok (.invokevirtual 384, 3) := by decide +kernel
theorem d_Mod_nextLine_64 : decode prog_14_method_62_code 64 = .ok (.iload_n 2, 1) := by decide +kernel
theorem d_Mod_nextLine_65 : decode prog_14_method_62_code 65 = .ok (.iconst 1, 1) := by decide +kernel
theorem d_Mod_nextLine_66 : decode prog_14_method_62_code 66 = .ok (.iadd, 1) := by decide +kernel
theorem d_Mod_nextLine_67 : decode prog_14_method_62_code 67 = .ok (.ireturn, 1) := by decide +kernel
theorem d_Mod_nextLine_68 : decode prog_14_method_62_code 68 = .ok (.aload_n 0, 1) := by decide +kernel
theorem d_Mod_nextLine_69 : decode prog_14_method_62_code 69 = .ok (.getfield 13, 3) := by decide +kernel
theorem d_Mod_nextLine_72 : decode prog_14_method_62_code 72 = .ok (.aload_n 0, 1) := by decide +kernel
theorem d_Mod_nextLine_73 : decode prog_14_method_62_code 73 = .ok (.getfield 346, 3) := by decide +kernel
theorem d_Mod_nextLine_76 : decode prog_14_method_62_code 76 = .ok (.iaload, 1) := by decide +kernel
theorem d_Mod_nextLine_77 : decode prog_14_method_62_code 77 = .ok (.istore_n 3, 1) := by decide +kernel
theorem d_Mod_nextLine_78 : decode prog_14_method_62_code 78 = .ok (.aload_n 0, 1) := by decide +kernel
theorem d_Mod_nextLine_79 : decode prog_14_method_62_code 79 = .ok (.getfield 319, 3) := by decide +kernel
theorem d_Mod_nextLine_82 : decode prog_14_method_62_code 82 = .ok (.iconst 1, 1) := by decide +kernel
theorem d_Mod_nextLine_83 : decode prog_14_method_62_code 83 = .ok (.iadd, 1) := by decide +kernel
theorem d_Mod_nextLine_84 : decode prog_14_method_62_code 84 = .ok (.iload_n 3, 1) := by decide +kernel
theorem d_Mod_nextLine_85 : decode prog_14_method_62_code 85 = .ok (.iadd, 1) := by decide +kernel
theorem d_Mod_nextLine_86 : decode prog_14_method_62_code 86 = .ok (.bipush 60, 2) := by decide +kernel
theorem d_Mod_nextLine_88 : decode prog_14_method_62_code 88 = .ok (.if_icmp .le 10, 3) := by decide +kernel
theorem d_Mod_nextLine_91 : decode prog_14_method_62_code 91 = .ok (.aload_n 0, 1) := by decide +kernel
theorem d_Mod_nextLine_92 : decode prog_14_method_62_code 92 = .ok (.invokevirtual 337, 3) := by decide +kernel
theorem d_Mod_nextLine_95 : decode prog_14_method_62_code 95 = .ok (.pop, 1) := by decide +kernel
theorem d_Mod_nextLine_96 : decode prog_14_method_62_code 96 = .ok (.iconst 0, 1) := by decide +kernel
theorem d_Mod_nextLine_97 : decode prog_14_method_62_code 97 = .ok (.ireturn, 1) := by decide +kernel
theorem d_Mod_nextLine_98 : decode prog_14_method_62_code 98 = .ok (.aload_n 0, 1) := by decide +kernel
theorem d_Mod_nextLine_99 : decode prog_14_method_62_code 99 = .ok (.invokevirtual 381, 3) := by decide +kernel
theorem d_Mod_nextLine_102 : decode prog_14_method_62_code 102 = .ok (.istore 4, 2) := by decide +kernel
theorem d_Mod_nextLine_104 : decode prog_14_method_62_code 104 = .ok (.iload 4, 2) := by decide +kernel
theorem d_Mod_nextLine_106 : decode prog_14_method_62_code 106 = .ok (.ifCond .ne 5, 3) := by decide +kernel
theorem d_Mod_nextLine_109 : decode prog_14_method_62_code 109 = .ok (.iconst 0, 1) := by decide +kernel
theorem d_Mod_nextLine_110 : decode prog_14_method_62_code 110 = .ok (.ireturn, 1) := by decide +kernel
theorem d_Mod_nextLine_111 : decode prog_14_method_62_code 111 = .ok (.aload_n 0, 1) := by decide +kernel
theorem d_Mod_nextLine_112 : decode prog_14_method_62_code 112 = .ok (.getfield 130, 3) := by decide +kernel
theorem d_Mod_nextLine_115 : decode prog_14_method_62_code 115 = .ok (.aload_n 0, 1) := by decide +kernel
theorem d_Mod_nextLine_116 : decode prog_14_method_62_code 116 = .ok (.getfield 319, 3) := by decide +kernel
theorem d_Mod_nextLine_119 : decode prog_14_method_62_code 119 = .ok (.bipush 10, 2) := by decide +kernel
theorem d_Mod_nextLine_121 : decode prog_14_method_62_code 121 = .ok (.iastore, 1) := by decide +kernel
theorem d_Mod_nextLine_122 : decode prog_14_method_62_code 122 = .ok (.iconst 0, 1) := by decide +kernel
theorem d_Mod_nextLine_123 : decode prog_14_method_62_code 123 = .ok (.istore 5, 2) := by decide +kernel
theorem d_Mod_nextLine_125 : decode prog_14_method_62_code 125 = .ok (.iload 5, 2) := by decide +kernel
theorem d_Mod_nextLine_127 : decode prog_14_method_62_code 127 = .ok (.iload_n 3, 1) := by decide +kernel
theorem d_Mod_nextLine_128 : decode prog_14_method_62_code 128 = .ok (.if_icmp .ge 38, 3) := by decide +kernel
theorem d_Mod_nextLine_131 : decode prog_14_method_62_code 131 = .ok (.aload_n 0, 1) := by decide +kernel
theorem d_Mod_nextLine_132 : decode prog_14_method_62_code 132 = .ok (.getfield 130, 3) := by decide +kernel
theorem d_Mod_nextLine_135 : decode prog_14_method_62_code 135 = .ok (.aload_n 0, 1) := by decide +kernel
theorem d_Mod_nextLine_136 : decode prog_14_method_62_code 136 = .ok (.getfield 319, 3) := by decide +kernel
theorem d_Mod_nextLine_139 : decode prog_14_method_62_code 139 = .ok (.iconst 1, 1) := by decide +kernel
theorem d_Mod_nextLine_140 : decode prog_14_method_62_code 140 = .ok (.iadd, 1) := by decide +kernel
theorem d_Mod_nextLine_141 : decode prog_14_method_62_code 141 = .ok (.iload 5, 2) := by decide +kernel
theorem d_Mod_nextLine_143 : decode prog_14_method_62_code 143 = .ok (.iadd, 1) := by decide +kernel
theorem d_Mod_nextLine_144 : decode prog_14_method_62_code 144 = .ok (.aload_n 0, 1) := by decide +kernel
theorem d_Mod_nextLine_145 : decode prog_14_method_62_code 145 = .ok (.getfield 16, 3) := by decide +kernel
theorem d_Mod_nextLine_148 : decode prog_14_method_62_code 148 = .ok (.bipush 24, 2) := by decide +kernel
theorem d_Mod_nextLine_150 : decode prog_14_method_62_code 150 = .ok (.aload_n 0, 1) := by decide +kernel
theorem d_Mod_nextLine_151 : decode prog_14_method_62_code 151 = .ok (.getfield 346, 3) := by decide +kernel
theorem d_Mod_nextLine_154 : decode prog_14_method_62_code 154 = .ok (.imul, 1) := by decide +kernel
theorem d_Mod_nextLine_155 : decode prog_14_method_62_code 155 = .ok (.iload 5, 2) := by decide +kernel
theorem d_Mod_nextLine_157 : decode prog_14_method_62_code 157 = .ok (.iadd, 1) := by decide +kernel
theorem d_Mod_nextLine_158 : decode prog_14_method_62_code 158 = .ok (.iaload, 1) := by decide +kernel
theorem d_Mod_nextLine_159 : decode prog_14_method_62_code 159 = .ok (.iastore, 1) := by decide +kernel
theorem d_Mod_nextLine_160 : decode prog_14_method_62_code 160 = .ok (.iinc 5 1, 3) := by decide +kernel
theorem d_Mod_nextLine_163 : decode prog_14_method_62_code 163 = .ok (.goto (-38), 3) := by decide +kernel
theorem d_Mod_nextLine_166 : decode prog_14_method_62_code 166 = .ok (.aload_n 0, 1) := by decide +kernel
theorem d_Mod_nextLine_167 : decode prog_14_method_62_code 167 = .ok (.dup, 1) := by decide +kernel
theorem d_Mod_nextLine_168 : decode prog_14_method_62_code 168 = .ok (.getfield 319, 3) := by decide +kernel
theorem d_Mod_nextLine_171 : decode prog_14_method_62_code 171 = .ok (.iload_n 3, 1) := by decide +kernel
theorem d_Mod_nextLine_172 : decode prog_14_method_62_code 172 = .ok (.iconst 1, 1) := by decide +kernel
theorem d_Mod_nextLine_173 : decode prog_14_method_62_code 173 = .ok (.iadd, 1) := by decide +kernel
theorem d_Mod_nextLine_174 : decode prog_14_method_62_code 174 = .ok (.iadd, 1) := by decide +kernel
theorem d_Mod_nextLine_175 : decode prog_14_method_62_code 175 = .ok (.putfield 319, 3) := by decide +kernel
theorem d_Mod_nextLine_178 : decode prog_14_method_62_code 178 = .ok (.aload_n 0, 1) := by decide +kernel
theorem d_Mod_nextLine_179 : decode prog_14_method_62_code 179 = .ok (.dup, 1) := by decide +kernel
theorem d_Mod_nextLine_180 : decode prog_14_method_62_code 180 = .ok (.getfield 346, 3) := by decide +kernel
theorem d_Mod_nextLine_183 : decode prog_14_method_62_code 183 = .ok (.iconst 1, 1) := by decide +kernel
theorem d_Mod_nextLine_184 : decode prog_14_method_62_code 184 = .ok (.iadd, 1) := by decide +kernel
theorem d_Mod_nextLine_185 : decode prog_14_method_62_code 185 = .ok (.putfield 346, 3) := by decide +kernel
theorem d_Mod_nextLine_188 : decode prog_14_method_62_code 188 = .ok (.iload_n 2, 1) := by decide +kernel
theorem d_Mod_nextLine_189 : decode prog_14_method_62_code 189 = .ok (.iconst 1, 1) := by decide +kernel
theorem d_Mod_nextLine_190 : decode prog_14_method_62_code 190 = .ok (.iadd, 1) := by decide +kernel
theorem d_Mod_nextLine_191 : decode prog_14_method_62_code 191 = .ok (.ireturn, 1) := by decide +kernel
