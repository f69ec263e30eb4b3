theorem d_Mod_goals_0 : decode prog_14_method_35_code 0 = .ok (.iconst 0, 1) := by decide +kernel
theorem d_Mod_goals_1 : decode prog_14_method_35_code 1 = .ok (.istore_n 1, 1) := by decide +kernel
theorem d_Mod_goals_2 : decode prog_14_method_35_code 2 = .ok (.iload_n 1, 1) := by decide +kernel
theorem d_Mod_goals_3 : decode prog_14_method_35_code 3 = .ok (.aload_n 0, 1) := by decide +kernel
theorem d_Mod_goals_4 : decode prog_14_method_35_code 4 = .ok (.getfield 69, 3) := by decide +kernel
theorem d_Mod_goals_7 : decode prog_14_method_35_code 7 = .ok (.aload_n 0, 1) := by decide +kernel
theorem d_Mod_goals_8 : decode prog_14_method_35_code 8 = .ok (.getfield 191, 3) := by decide +kernel
theorem d_Mod_goals_11 : decode prog_14_method_35_code 11 = .ok (.iaload, 1) := by decide +kernel
theorem d_Mod_goals_12 : decode prog_14_method_35_code 12 = .ok (.if_icmp .ge 115, 3) := by decide +kernel
theorem d_Mod_goals_15 : decode prog_14_method_35_code 15 = .ok (.aload_n 0, 1) := by decide +kernel
theorem d_Mod_goals_16 : decode prog_14_method_35_code 16 = .ok (.getfield 179, 3) := by decide +kernel
theorem d_Mod_goals_19 : decode prog_14_method_35_code 19 = .ok (.ifCond .ne 108, 3) := by decide +kernel
theorem d_Mod_goals_22 : decode prog_14_method_35_code 22 = .ok (.bipush 40, 2) := by decide +kernel
theorem d_Mod_goals_24 : decode prog_14_method_35_code 24 = .ok (.aload_n 0, 1) := by decide +kernel
theorem d_Mod_goals_25 : decode prog_14_method_35_code 25 = .ok (.getfield 191, 3) := by decide +kernel
theorem d_Mod_goals_28 : decode prog_14_method_35_code 28 = .ok (.imul, 1) := by decide +kernel
theorem d_Mod_goals_29 : decode prog_14_method_35_code 29 = .ok (.iload_n 1, 1) := by decide +kernel
theorem d_Mod_goals_30 : decode prog_14_method_35_code 30 = .ok (.iadd, 1) := by decide +kernel
theorem d_Mod_goals_31 : decode prog_14_method_35_code 31 = .ok (.istore_n 2, 1) := by decide +kernel
theorem d_Mod_goals_32 : decode prog_14_method_35_code 32 = .ok (.aload_n 0, 1) := by decide +kernel
theorem d_Mod_goals_33 : decode prog_14_method_35_code 33 = .ok (.getfield 23, 3) := by decide +kernel
theorem d_Mod_goals_36 : decode prog_14_method_35_code 36 = .ok (.iload_n 2, 1) := by decide +kernel
theorem d_Mod_goals_37 : decode prog_14_method_35_code 37 = .ok (.iaload, 1) := by decide +kernel
theorem d_Mod_goals_38 : decode prog_14_method_35_code 38 = .ok (.bipush 98, 2) := by decide +kernel
theorem d_Mod_goals_40 : decode prog_14_method_35_code 40 = .ok (.if_icmp .eq 14, 3) := by decide +kernel
theorem d_Mod_goals_43 : decode prog_14_method_35_code 43 = .ok (.aload_n 0, 1) := by decide +kernel
theorem d_Mod_goals_44 : decode prog_14_method_35_code 44 = .ok (.getfield 23, 3) := by decide +kernel
theorem d_Mod_goals_47 : decode prog_14_method_35_code 47 = .ok (.iload_n 2, 1) := by decide +kernel
theorem d_Mod_goals_48 : decode prog_14_method_35_code 48 = .ok (.iaload, 1) := by decide +kernel
theorem d_Mod_goals_49 : decode prog_14_method_35_code 49 = .ok (.bipush 116, 2) := by decide +kernel
theorem d_Mod_goals_51 : decode prog_14_method_35_code 51 = .ok (.if_icmp .ne 70, 3) := by decide +kernel
theorem d_Mod_goals_54 : decode prog_14_method_35_code 54 = .ok (.aload_n 0, 1) := by decide +kernel
theorem d_Mod_goals_55 : decode prog_14_method_35_code 55 = .ok (.getfield 50, 3) := by decide +kernel
theorem d_Mod_goals_58 : decode prog_14_method_35_code 58 = .ok (.iload_n 2, 1) := by decide +kernel
theorem d_Mod_goals_59 : decode prog_14_method_35_code 59 = .ok (.iaload, 1) := by decide +kernel
theorem d_Mod_goals_60 : decode prog_14_method_35_code 60 = .ok (.iconst (-1), 1) := by decide +kernel
theorem d_Mod_goals_61 : decode prog_14_method_35_code 61 = .ok (.if_icmp .ne 6, 3) := by decide +kernel
theorem d_Mod_goals_64 : decode prog_14_method_35_code 64 = .ok (.goto 57, 3) := by decide +kernel
theorem d_Mod_goals_67 : decode prog_14_method_35_code 67 = .ok (.aload_n 0, 1) := by decide +kernel
theorem d_Mod_goals_68 : decode prog_14_method_35_code 68 = .ok (.getfield 115, 3) := by decide +kernel
theorem d_Mod_goals_71 : decode prog_14_method_35_code 71 = .ok (.aload_n 0, 1) := by decide +kernel
theorem d_Mod_goals_72 : decode prog_14_method_35_code 72 = .ok (.getfield 50, 3) := by decide +kernel
theorem d_Mod_goals_75 : decode prog_14_method_35_code 75 = .ok (.iload_n 2, 1) := by decide +kernel
theorem d_Mod_goals_76 : decode prog_14_method_35_code 76 = .ok (.iaload, 1) := by decide +kernel
theorem d_Mod_goals_77 : decode prog_14_method_35_code 77 = .ok (.iaload, 1) := by decide +kernel
theorem d_Mod_goals_78 : decode prog_14_method_35_code 78 = .ok (.ifCond .ge 16, 3) := by decide +kernel
theorem d_Mod_goals_81 : decode prog_14_method_35_code 81 = .ok (.aload_n 0, 1) := by decide +kernel
theorem d_Mod_goals_82 : decode prog_14_method_35_code 82 = .ok (.aload_n 0, 1) := by decide +kernel
theorem d_Mod_goals_83 : decode prog_14_method_35_code 83 = .ok (.getfield 56, 3) := by decide +kernel
theorem d_Mod_goals_86 : decode prog_14_method_35_code 86 = .ok (.iload_n 2, 1) := by decide +kernel
theorem d_Mod_goals_87 : decode prog_14_method_35_code 87 = .ok (.iaload, 1) := by decide +kernel
theorem d_Mod_goals_88 : decode prog_14_method_35_code 88 = .ok (.invokevirtual 187, 3) := by decide +kernel
theorem d_Mod_goals_91 : decode prog_14_method_35_code 91 = .ok (.goto 30, 3) := by decide +kernel
theorem d_Mod_goals_94 : decode prog_14_method_35_code 94 = .ok (.aload_n 0, 1) := by decide +kernel
theorem d_Mod_goals_95 : decode prog_14_method_35_code 95 = .ok (.getfield 50, 3) := by decide +kernel
theorem d_Mod_goals_98 : decode prog_14_method_35_code 98 = .ok (.iload_n 2, 1) := by decide +kernel
theorem d_Mod_goals_99 : decode prog_14_method_35_code 99 = .ok (.aload_n 0, 1) := by decide +kernel
theorem d_Mod_goals_100 : decode prog_14_method_35_code 100 = .ok (.getfield 115, 3) := by decide +kernel
theorem d_Mod_goals_103 : decode prog_14_method_35_code 103 = .ok (.aload_n 0, 1) := by decide +kernel
theorem d_Mod_goals_104 : decode prog_14_method_35_code 104 = .ok (.getfield 50, 3) := by decide +kernel
theorem d_Mod_goals_107 : decode prog_14_method_35_code 107 = .ok (.iload_n 2, 1) := by decide +kernel
theorem d_Mod_goals_108 : decode prog_14_method_35_code 108 = .ok (.iaload, 1) := by decide +kernel
theorem d_Mod_goals_109 : decode prog_14_method_35_code 109 = .ok (.iaload, 1) := by decide +kernel
theorem d_Mod_goals_110 : decode prog_14_method_35_code 110 = .ok (.bipush 40, 2) := by decide +kernel
theorem d_Mod_goals_112 : decode prog_14_method_35_code 112 = .ok (.aload_n 0, 1) := by decide +kernel
theorem d_Mod_goals_113 : decode prog_14_method_35_code 113 = .ok (.getfield 191, 3) := by decide +kernel
theorem d_Mod_goals_116 : decode prog_14_method_35_code 116 = .ok (.imul, 1) := by decide +kernel
theorem d_Mod_goals_117 : decode prog_14_method_35_code 117 = .ok (.isub, 1) := by decide +kernel
theorem d_Mod_goals_118 : decode prog_14_method_35_code 118 = .ok (.iconst 1, 1) := by decide +kernel
theorem d_Mod_goals_119 : decode prog_14_method_35_code 119 = .ok (.iadd, 1) := by decide +kernel
theorem d_Mod_goals_120 : decode prog_14_method_35_code 120 = .ok (.iastore, 1) := by decide +kernel
theorem d_Mod_goals_121 : decode prog_14_method_35_code 121 = .ok (.iinc 1 1, 3) := by decide +kernel
theorem d_Mod_goals_124 : decode prog_14_method_35_code 124 = .ok (.goto (-122), 3) := by decide +kernel
theorem d_Mod_goals_127 : decode prog_14_method_35_code 127 = .ok (.return_, 1) := by decide +kernel
theorem d_Mod_parse_0 : decode prog_14_method_36_code 0 = .ok (.aload_n 0, 1) := by decide +kernel
theorem d_Mod_parse_1 : decode prog_14_method_36_code 1 = .ok (.iconst 1, 1) := by decide +kernel
theorem d_Mod_parse_2 : decode prog_14_method_36_code 2 = .ok (.aload_n 0, 1) := by decide +kernel
theorem d_Mod_parse_3 : decode prog_14_method_36_code 3 = .ok (.getfield 284, 3) := by decide +kernel
theorem d_Mod_parse_6 : decode prog_14_method_36_code 6 = .ok (.isub, 1) := by decide +kernel
theorem d_Mod_parse_7 : decode prog_14_method_36_code 7 = .ok (.putfield 191, 3) := by decide +kernel
theorem d_Mod_parse_10 : decode prog_14_method_36_code 10 = .ok (.aload_n 0, 1) := by decide +kernel
theorem d_Mod_parse_11 : decode prog_14_method_36_code 11 = .ok (.getfield 69, 3) := by decide +kernel
theorem d_Mod_parse_14 : decode prog_14_method_36_code 14 = .ok (.aload_n 0, 1) := by decide +kernel
theorem d_Mod_parse_15 : decode prog_14_method_36_code 15 = .ok (.getfield 191, 3) := by decide +kernel
theorem d_Mod_parse_18 : decode prog_14_method_36_code 18 = .ok (.iconst 0, 1) := by decide +kernel
theorem d_Mod_parse_19 : decode prog_14_method_36_code 19 = .ok (.iastore, 1) := by decide +kernel
theorem d_Mod_parse_20 : decode prog_14_method_36_code 20 = .ok (.aload_n 0, 1) := by decide +kernel
theorem d_Mod_parse_21 : decode prog_14_method_36_code 21 = .ok (.getfield 72, 3) := by decide +kernel
theorem d_Mod_parse_24 : decode prog_14_method_36_code 24 = .ok (.aload_n 0, 1) := by decide +kernel
theorem d_Mod_parse_25 : decode prog_14_method_36_code 25 = .ok (.getfield 191, 3) := by decide +kernel
theorem d_Mod_parse_28 : decode prog_14_method_36_code 28 = .ok (.iconst 0, 1) := by decide +kernel
theorem d_Mod_parse_29 : decode prog_14_method_36_code 29 = .ok (.iastore, 1) := by decide +kernel
theorem d_Mod_parse_30 : decode prog_14_method_36_code 30 = .ok (.aload_n 0, 1) := by decide +kernel
theorem d_Mod_parse_31 : decode prog_14_method_36_code 31 = .ok (.getfield 75, 3) := by decide +kernel
theorem d_Mod_parse_34 : decode prog_14_method_36_code 34 = .ok (.aload_n 0, 1) := by decide +kernel
theorem d_Mod_parse_35 : decode prog_14_method_36_code 35 = .ok (.getfield 191, 3) := by decide +kernel
theorem d_Mod_parse_38 : decode prog_14_method_36_code 38 = .ok (.iconst 0, 1) := by decide +kernel
theorem d_Mod_parse_39 : decode prog_14_method_36_code 39 = .ok (.iastore, 1) := by decide +kernel
theorem d_Mod_parse_40 : decode prog_14_method_36_code 40 = .ok (.aload_n 0, 1) := by decide +kernel
theorem d_Mod_parse_41 : decode prog_14_method_36_code 41 = .ok (.getfield 78, 3) := by decide +kernel
theorem d_Mod_parse_44 : decode prog_14_method_36_code 44 = .ok (.aload_n 0, 1) := by decide +kernel
theorem d_Mod_parse_45 : decode prog_14_method_36_code 45 = .ok (.getfield 191, 3) := by decide +kernel
theorem d_Mod_parse_48 : decode prog_14_method_36_code 48 = .ok (.iconst 0, 1) := by decide +kernel
theorem d_Mod_parse_49 : decode prog_14_method_36_code 49 = .ok (.iastore, 1) := by decide +kernel
theorem d_Mod_parse_50 : decode prog_14_method_36_code 50 = .ok (.iconst 0, 1) := by decide +kernel
theorem d_Mod_parse_51 : decode prog_14_method_36_code 51 = .ok (.istore_n 1, 1) := by decide +kernel
theorem d_Mod_parse_52 : decode prog_14_method_36_code 52 = .ok (.iload_n 1, 1) := by decide +kernel
theorem d_Mod_parse_53 : decode prog_14_method_36_code 53 = .ok (.bipush 26, 2) := by decide +kernel
theorem d_Mod_parse_55 : decode prog_14_method_36_code 55 = .ok (.if_icmp .ge 16, 3) := by decide +kernel
theorem d_Mod_parse_58 : decode prog_14_method_36_code 58 = .ok (.aload_n 0, 1) := by decide +kernel
theorem d_Mod_parse_59 : decode prog_14_method_36_code 59 = .ok (.getfield 115, 3) := by decide +kernel
theorem d_Mod_parse_62 : decode prog_14_method_36_code 62 = .ok (.iload_n 1, 1) := by decide +kernel
theorem d_Mod_parse_63 : decode prog_14_method_36_code 63 = .ok (.iconst (-1), 1) := by decide +kernel
theorem d_Mod_parse_64 : decode prog_14_method_36_code 64 = .ok (.iastore, 1) := by decide +kernel
theorem d_Mod_parse_65 : decode prog_14_method_36_code 65 = .ok (.iinc 1 1, 3) := by decide +kernel
theorem d_Mod_parse_68 : decode prog_14_method_36_code 68 = .ok (.goto (-16), 3) := by decide +kernel
theorem d_Mod_parse_71 : decode prog_14_method_36_code 71 = .ok (.aload_n 0, 1) := by decide +kernel
theorem d_Mod_parse_72 : decode prog_14_method_36_code 72 = .ok (.iconst 0, 1) := by decide +kernel
theorem d_Mod_parse_73 : decode prog_14_method_36_code 73 = .ok (.putfield 176, 3) := by decide +kernel
theorem d_Mod_parse_76 : decode prog_14_method_36_code 76 = .ok (.aload_n 0, 1) := by decide +kernel
theorem d_Mod_parse_77 : decode prog_14_method_36_code 77 = .ok (.iconst 0, 1) := by decide +kernel
theorem d_Mod_parse_78 : decode prog_14_method_36_code 78 = .ok (.putfield 261, 3) := by decide +kernel
theorem d_Mod_parse_81 : decode prog_14_method_36_code 81 = .ok (.aload_n 0, 1) := by decide +kernel
theorem d_Mod_parse_82 : decode prog_14_method_36_code 82 = .ok (.iconst 0, 1) := by decide +kernel
theorem d_Mod_parse_83 : decode prog_14_method_36_code 83 = .ok (.putfield 179, 3) := by decide +kernel
theorem d_Mod_parse_86 : decode prog_14_method_36_code 86 = .ok (.aload_n 0, 1) := by decide +kernel
theorem d_Mod_parse_87 : decode prog_14_method_36_code 87 = .ok (.bipush (-2), 2) := by decide +kernel
theorem d_Mod_parse_89 : decode prog_14_method_36_code 89 = .ok (.putfield 19, 3) := by decide +kernel
theorem d_Mod_parse_92 : decode prog_14_method_36_code 92 = .ok (.aload_n 0, 1) := by decide +kernel
theorem d_Mod_parse_93 : decode prog_14_method_36_code 93 = .ok (.getfield 179, 3) := by decide +kernel
theorem d_Mod_parse_96 : decode prog_14_method_36_code 96 = .ok (.ifCond .ne 132, 3) := by decide +kernel
theorem d_Mod_parse_99 : decode prog_14_method_36_code 99 = .ok (.aload_n 0, 1) := by decide +kernel
theorem d_Mod_parse_100 : decode prog_14_method_36_code 100 = .ok (.getfield 176, 3) := by decide +kernel
theorem d_Mod_parse_103 : decode prog_14_method_36_code 103 = .ok (.aload_n 0, 1) := by decide +kernel
theorem d_Mod_parse_104 : decode prog_14_method_36_code 104 = .ok (.getfield 166, 3) := by decide +kernel
theorem d_Mod_parse_107 : decode prog_14_method_36_code 107 = .ok (.if_icmp .ge 121, 3) := by decide +kernel
theorem d_Mod_parse_110 : decode prog_14_method_36_code 110 = .ok (.aload_n 0, 1) := by decide +kernel
theorem d_Mod_parse_111 : decode prog_14_method_36_code 111 = .ok (.getfield 7, 3) := by decide +kernel
theorem d_Mod_parse_114 : decode prog_14_method_36_code 114 = .ok (.aload_n 0, 1) := by decide +kernel
theorem d_Mod_parse_115 : decode prog_14_method_36_code 115 = .ok (.getfield 176, 3) := by decide +kernel
theorem d_Mod_parse_118 : decode prog_14_method_36_code 118 = .ok (.iaload, 1) := by decide +kernel
theorem d_Mod_parse_119 : decode prog_14_method_36_code 119 = .ok (.istore_n 1, 1) := by decide +kernel
theorem d_Mod_parse_120 : decode prog_14_method_36_code 120 = .ok (.iload_n 1, 1) := by decide +kernel
theorem d_Mod_parse_121 : decode prog_14_method_36_code 121 = .ok (.bipush 32, 2) := by decide +kernel
theorem d_Mod_parse_123 : decode prog_14_method_36_code 123 = .ok (.if_icmp .eq 15, 3) := by decide +kernel
theorem d_Mod_parse_126 : decode prog_14_method_36_code 126 = .ok (.iload_n 1, 1) := by decide +kernel
theorem d_Mod_parse_127 : decode prog_14_method_36_code 127 = .ok (.bipush 10, 2) := by decide +kernel
theorem d_Mod_parse_129 : decode prog_14_method_36_code 129 = .ok (.if_icmp .eq 9, 3) := by decide +kernel
theorem d_Mod_parse_132 : decode prog_14_method_36_code 132 = .ok (.iload_n 1, 1) := by decide +kernel
theorem d_Mod_parse_133 : decode prog_14_method_36_code 133 = .ok (.bipush 59, 2) := by decide +kernel
theorem d_Mod_parse_135 : decode prog_14_method_36_code 135 = .ok (.if_icmp .ne 16, 3) := by decide +kernel
theorem d_Mod_parse_138 : decode prog_14_method_36_code 138 = .ok (.aload_n 0, 1) := by decide +kernel
theorem d_Mod_parse_139 : decode prog_14_method_36_code 139 = .ok (.dup, 1) := by decide +kernel
theorem d_Mod_parse_140 : decode prog_14_method_36_code 140 = .ok (.getfield 176, 3) := by decide +kernel
theorem d_Mod_parse_143 : decode prog_14_method_36_code 143 = .ok (.iconst 1, 1) := by decide +kernel
theorem d_Mod_parse_144 : decode prog_14_method_36_code 144 = .ok (.iadd, 1) := by decide +kernel
theorem d_Mod_parse_145 : decode prog_14_method_36_code 145 = .ok (.putfield 176, 3) := by decide +kernel
theorem d_Mod_parse_148 : decode prog_14_method_36_code 148 = .ok (.goto 77, 3) := by decide +kernel
theorem d_Mod_parse_151 : decode prog_14_method_36_code 151 = .ok (.iload_n 1, 1) := by decide +kernel
theorem d_Mod_parse_152 : decode prog_14_method_36_code 152 = .ok (.bipush 125, 2) := by decide +kernel
theorem d_Mod_parse_154 : decode prog_14_method_36_code 154 = .ok (.if_icmp .ne 67, 3) := by decide +kernel
theorem d_Mod_parse_157 : decode prog_14_method_36_code 157 = .ok (.aload_n 0, 1) := by decide +kernel
theorem d_Mod_parse_158 : decode prog_14_method_36_code 158 = .ok (.getfield 261, 3) := by decide +kernel
theorem d_Mod_parse_161 : decode prog_14_method_36_code 161 = .ok (.ifCond .ne 14, 3) := by decide +kernel
theorem d_Mod_parse_164 : decode prog_14_method_36_code 164 = .ok (.aload_n 0, 1) := by decide +kernel
theorem d_Mod_parse_165 : decode prog_14_method_36_code 165 = .ok (.aload_n 0, 1) := by decide +kernel
theorem d_Mod_parse_166 : decode prog_14_method_36_code 166 = .ok (.getfield 176, 3) := by decide +kernel
theorem d_Mod_parse_169 : decode prog_14_method_36_code 169 = .ok (.invokevirtual 187, 3) := by decide +kernel
theorem d_Mod_parse_172 : decode prog_14_method_36_code 172 = .ok (.goto 36, 3) := by decide +kernel
theorem d_Mod_parse_175 : decode prog_14_method_36_code 175 = .ok (.aload_n 0, 1) := by decide +kernel
theorem d_Mod_parse_176 : decode prog_14_method_36_code 176 = .ok (.dup, 1) := by decide +kernel
theorem d_Mod_parse_177 : decode prog_14_method_36_code 177 = .ok (.getfield 261, 3) := by decide +kernel
theorem d_Mod_parse_180 : decode prog_14_method_36_code 180 = .ok (.iconst 1, 1) := by decide +kernel
theorem d_Mod_parse_181 : decode prog_14_method_36_code 181 = .ok (.isub, 1) := by decide +kernel
theorem d_Mod_parse_182 : decode prog_14_method_36_code 182 = .ok (.putfield 261, 3) := by decide +kernel
theorem d_Mod_parse_185 : decode prog_14_method_36_code 185 = .ok (.aload_n 0, 1) := by decide +kernel
theorem d_Mod_parse_186 : decode prog_14_method_36_code 186 = .ok (.getfield 50, 3) := by decide +kernel
theorem d_Mod_parse_189 : decode prog_14_method_36_code 189 = .ok (.aload_n 0, 1) := by decide +kernel
theorem d_Mod_parse_190 : decode prog_14_method_36_code 190 = .ok (.getfield 118, 3) := by decide +kernel
theorem d_Mod_parse_193 : decode prog_14_method_36_code 193 = .ok (.aload_n 0, 1) := by decide +kernel
theorem d_Mod_parse_194 : decode prog_14_method_36_code 194 = .ok (.getfield 261, 3) := by decide +kernel
theorem d_Mod_parse_197 : decode prog_14_method_36_code 197 = .ok (.iaload, 1) := by decide +kernel
theorem d_Mod_parse_198 : decode prog_14_method_36_code 198 = .ok (.aload_n 0, 1) := by decide +kernel
theorem d_Mod_parse_199 : decode prog_14_method_36_code 199 = .ok (.getfield 69, 3) := by decide +kernel
theorem d_Mod_parse_202 : decode prog_14_method_36_code 202 = .ok (.aload_n 0, 1) := by decide +kernel
theorem d_Mod_parse_203 : decode prog_14_method_36_code 203 = .ok (.getfield 191, 3) := by decide +kernel
theorem d_Mod_parse_206 : decode prog_14_method_36_code 206 = .ok (.iaload, 1) := by decide +kernel
theorem d_Mod_parse_207 : decode prog_14_method_36_code 207 = .ok (.iastore, 1) := by decide +kernel
theorem d_Mod_parse_208 : decode prog_14_method_36_code 208 = .ok (.aload_n 0, 1) := by decide +kernel
theorem d_Mod_parse_209 : decode prog_14_method_36_code 209 = .ok (.dup, 1) := by decide +kernel
theorem d_Mod_parse_210 : decode prog_14_method_36_code 210 = .ok (.getfield 176, 3) := by decide +kernel
theorem d_Mod_parse_213 : decode prog_14_method_36_code 213 = .ok (.iconst 1, 1) := by decide +kernel
theorem d_Mod_parse_214 : decode prog_14_method_36_code 214 = .ok (.iadd, 1) := by decide +kernel
theorem d_Mod_parse_215 : decode prog_14_method_36_code 215 = .ok (.putfield 176, 3) := by decide +kernel
theorem d_Mod_parse_218 : decode prog_14_method_36_code 218 = .ok (.goto 7, 3) := by decide +kernel
theorem d_Mod_parse_221 : decode prog_14_method_36_code 221 = .ok (.aload_n 0, 1) := by decide +kernel
theorem d_Mod_parse_222 : decode prog_14_method_36_code 222 = .ok (.invokevirtual 287, 3) := by decide +kernel
theorem d_Mod_parse_225 : decode prog_14_method_36_code 225 = .ok (.goto (-133), 3) := by decide +kernel
theorem d_Mod_parse_228 : decode prog_14_method_36_code 228 = .ok (.aload_n 0, 1) := by decide +kernel
theorem d_Mod_parse_229 : decode prog_14_method_36_code 229 = .ok (.getfield 179, 3) := by decide +kernel
theorem d_Mod_parse_232 : decode prog_14_method_36_code 232 = .ok (.ifCond .ne 18, 3) := by decide +kernel
theorem d_Mod_parse_235 : decode prog_14_method_36_code 235 = .ok (.aload_n 0, 1) := by decide +kernel
theorem d_Mod_parse_236 : decode prog_14_method_36_code 236 = .ok (.getfield 261, 3) := by decide +kernel
theorem d_Mod_parse_239 : decode prog_14_method_36_code 239 = .ok (.ifCond .le 11, 3) := by decide +kernel
theorem d_Mod_parse_242 : decode prog_14_method_36_code 242 = .ok (.aload_n 0, 1) := by decide +kernel
theorem d_Mod_parse_243 : decode prog_14_method_36_code 243 = .ok (.aload_n 0, 1) := by decide +kernel
theorem d_Mod_parse_244 : decode prog_14_method_36_code 244 = .ok (.getfield 166, 3) := by decide +kernel
theorem d_Mod_parse_247 : decode prog_14_method_36_code 247 = .ok (.invokevirtual 187, 3) := by decide +kernel
theorem d_Mod_parse_250 : decode prog_14_method_36_code 250 = .ok (.aload_n 0, 1) := by decide +kernel
theorem d_Mod_parse_251 : decode prog_14_method_36_code 251 = .ok (.invokevirtual 290, 3) := by decide +kernel
theorem d_Mod_parse_254 : decode prog_14_method_36_code 254 = .ok (.aload_n 0, 1) := by decide +kernel
theorem d_Mod_parse_255 : decode prog_14_method_36_code 255 = .ok (.getfield 179, 3) := by decide +kernel
theorem d_Mod_parse_258 : decode prog_14_method_36_code 258 = .ok (.ifCond .eq 9, 3) := by decide +kernel
theorem d_Mod_parse_261 : decode prog_14_method_36_code 261 = .ok (.aload_n 0, 1) := by decide +kernel
theorem d_Mod_parse_262 : decode prog_14_method_36_code 262 = .ok (.iconst 1, 1) := by decide +kernel
theorem d_Mod_parse_263 : decode prog_14_method_36_code 263 = .ok (.invokevirtual 162, 3) := by decide +kernel
theorem d_Mod_parse_266 : decode prog_14_method_36_code 266 = .ok (.ireturn, 1) := by decide +kernel
theorem d_Mod_parse_267 : decode prog_14_method_36_code 267 = .ok (.aload_n 0, 1) := by decide +kernel
theorem d_Mod_parse_268 : decode prog_14_method_36_code 268 = .ok (.iconst 0, 1) := by decide +kernel
theorem d_Mod_parse_269 : decode prog_14_method_36_code 269 = .ok (.putfield 151, 3) := by decide +kernel
theorem d_Mod_parse_272 : decode prog_14_method_36_code 272 = .ok (.aload_n 0, 1) := by decide +kernel
theorem d_Mod_parse_273 : decode prog_14_method_36_code 273 = .ok (.aload_n 0, 1) := by decide +kernel
theorem d_Mod_parse_274 : decode prog_14_method_36_code 274 = .ok (.getfield 191, 3) := by decide +kernel
theorem d_Mod_parse_277 : decode prog_14_method_36_code 277 = .ok (.putfield 284, 3) := by decide +kernel
theorem d_Mod_parse_280 : decode prog_14_method_36_code 280 = .ok (.aload_n 0, 1) := by decide +kernel
theorem d_Mod_parse_281 : decode prog_14_method_36_code 281 = .ok (.iconst 1, 1) := by decide +kernel
theorem d_Mod_parse_282 : decode prog_14_method_36_code 282 = .ok (.putfield 293, 3) := by decide +kernel
theorem d_Mod_parse_285 : decode prog_14_method_36_code 285 = .ok (.aload_n 0, 1) := by decide +kernel
theorem d_Mod_parse_286 : decode prog_14_method_36_code 286 = .ok (.getfield 69, 3) := by decide +kernel
theorem d_Mod_parse_289 : decode prog_14_method_36_code 289 = .ok (.aload_n 0, 1) := by decide +kernel
theorem d_Mod_parse_290 : decode prog_14_method_36_code 290 = .ok (.getfield 284, 3) := by decide +kernel
theorem d_Mod_parse_293 : decode prog_14_method_36_code 293 = .ok (.iaload, 1) := by decide +kernel
theorem d_Mod_parse_294 : decode prog_14_method_36_code 294 = .ok (.ireturn, 1) := by decide +kernel
theorem d_Mod_where_0 : decode prog_14_method_37_code 0 = .ok (.aload_n 0, 1) := by decide +kernel
theorem d_Mod_where_1 : decode prog_14_method_37_code 1 = .ok (.iconst 0, 1) := by decide +kernel
theorem d_Mod_where_2 : decode prog_14_method_37_code 2 = .ok (.putfield 151, 3) := by decide +kernel
theorem d_Mod_where_5 : decode prog_14_method_37_code 5 = .ok (.aload_n 0, 1) := by decide +kernel
theorem d_Mod_where_6 : decode prog_14_method_37_code 6 = .ok (.getfield 19, 3) := by decide +kernel
theorem d_Mod_where_9 : decode prog_14_method_37_code 9 = .ok (.ireturn, 1) := by decide +kernel
theorem d_Mod_fits_0 : decode prog_14_method_38_code 0 = .ok (.aload_n 0, 1) := by decide +kernel
theorem d_Mod_fits_1 : decode prog_14_method_38_code 1 = .ok (.getfield 90, 3) := by decide +kernel
theorem d_Mod_fits_4 : decode prog_14_method_38_code 4 = .ok (.iload_n 1, 1) := by decide +kernel
theorem d_Mod_fits_5 : decode prog_14_method_38_code 5 = .ok (.iaload, 1) := by decide +kernel
theorem d_Mod_fits_6 : decode prog_14_method_38_code 6 = .ok (.iconst 1, 1) := by decide +kernel
theorem d_Mod_fits_7 : decode prog_14_method_38_code 7 = .ok (.if_icmp .ne 5, 3) := by decide +kernel
theorem d_Mod_fits_10 : decode prog_14_method_38_code 10 = .ok (.iconst 1, 1) := by decide +kernel
theorem d_Mod_fits_11 : decode prog_14_method_38_code 11 = .ok (.ireturn, 1) := by decide +kernel
theorem d_Mod_fits_12 : decode prog_14_method_38_code 12 = .ok (.aload_n 0, 1) := by decide +kernel
theorem d_Mod_fits_13 : decode prog_14_method_38_code 13 = .ok (.getfield 90, 3) := by decide +kernel
theorem d_Mod_fits_16 : decode prog_14_method_38_code 16 = .ok (.iload_n 1, 1) := by decide +kernel
theorem d_Mod_fits_17 : decode prog_14_method_38_code 17 = .ok (.iaload, 1) := by decide +kernel
theorem d_Mod_fits_18 : decode prog_14_method_38_code 18 = .ok (.ifCond .ne 19, 3) := by decide +kernel
theorem d_Mod_fits_21 : decode prog_14_method_38_code 21 = .ok (.aload_n 0, 1) := by decide +kernel
theorem d_Mod_fits_22 : decode prog_14_method_38_code 22 = .ok (.getfield 93, 3) := by decide +kernel
theorem d_Mod_fits_25 : decode prog_14_method_38_code 25 = .ok (.iload_n 1, 1) := by decide +kernel
theorem d_Mod_fits_26 : decode prog_14_method_38_code 26 = .ok (.iaload, 1) := by decide +kernel
theorem d_Mod_fits_27 : decode prog_14_method_38_code 27 = .ok (.iload_n 2, 1) := by decide +kernel
theorem d_Mod_fits_28 : decode prog_14_method_38_code 28 = .ok (.if_icmp .ne 7, 3) := by decide +kernel
theorem d_Mod_fits_31 : decode prog_14_method_38_code 31 = .ok (.iconst 1, 1) := by decide +kernel
theorem d_Mod_fits_32 : decode prog_14_method_38_code 32 = .ok (.goto 4, 3) := by decide +kernel
theorem d_Mod_fits_35 : decode prog_14_method_38_code 35 = .ok (.iconst 0, 1) := by decide +kernel
theorem d_Mod_fits_36 : decode prog_14_method_38_code 36 = .ok (.ireturn, 1) := by decide +kernel
theorem d_Mod_fits_37 : decode prog_14_method_38_code 37 = .ok (.iload_n 2, 1) := by decide +kernel
theorem d_Mod_fits_38 : decode prog_14_method_38_code 38 = .ok (.bipush 64, 2) := by decide +kernel
theorem d_Mod_fits_40 : decode prog_14_method_38_code 40 = .ok (.if_icmp .ge 14, 3) := by decide +kernel
theorem d_Mod_fits_43 : decode prog_14_method_38_code 43 = .ok (.aload_n 0, 1) := by decide +kernel
theorem d_Mod_fits_44 : decode prog_14_method_38_code 44 = .ok (.getfield 108, 3) := by decide +kernel
theorem d_Mod_fits_47 : decode prog_14_method_38_code 47 = .ok (.iload_n 1, 1) := by decide +kernel
theorem d_Mod_fits_48 : decode prog_14_method_38_code 48 = .ok (.laload, 1) := by decide +kernel
theorem d_Mod_fits_49 : decode prog_14_method_38_code 49 = .ok (.iload_n 2, 1) := by decide +kernel
theorem d_Mod_fits_50 : decode prog_14_method_38_code 50 = .ok (.lshr, 1) := by decide +kernel
theorem d_Mod_fits_51 : decode prog_14_method_38_code 51 = .ok (.goto 14, 3) := by decide +kernel
theorem d_Mod_fits_54 : decode prog_14_method_38_code 54 = .ok (.aload_n 0, 1) := by decide +kernel
theorem d_Mod_fits_55 : decode prog_14_method_38_code 55 = .ok (.getfield 112, 3) := by decide +kernel
theorem d_Mod_fits_58 : decode prog_14_method_38_code 58 = .ok (.iload_n 1, 1) := by decide +kernel
theorem d_Mod_fits_59 : decode prog_14_method_38_code 59 = .ok (.laload, 1) := by decide +kernel
theorem d_Mod_fits_60 : decode prog_14_method_38_code 60 = .ok (.iload_n 2, 1) := by decide +kernel
theorem d_Mod_fits_61 : decode prog_14_method_38_code 61 = .ok (.bipush 64, 2) := by decide +kernel
theorem d_Mod_fits_63 : decode prog_14_method_38_code 63 = .ok (.isub, 1) := by decide +kernel
theorem d_Mod_fits_64 : decode prog_14_method_38_code 64 = .ok (.lshr, 1) := by decide +kernel
theorem d_Mod_fits_65 : decode prog_14_method_38_code 65 = .ok (.lconst 1, 1) := by decide +kernel
theorem d_Mod_fits_66 : decode prog_14_method_38_code 66 = .ok (.land, 1) := by decide +kernel
theorem d_Mod_fits_67 : decode prog_14_method_38_code 67 = .ok (.lconst 1, 1) := by decide +kernel
theorem d_Mod_fits_68 : decode prog_14_method_38_code 68 = .ok (.lcmp, 1) := by decide +kernel
theorem d_Mod_fits_69 : decode prog_14_method_38_code 69 = .ok (.ifCond .ne 7, 3) := by decide +kernel
theorem d_Mod_fits_72 : decode prog_14_method_38_code 72 = .ok (.iconst 1, 1) := by decide +kernel
theorem d_Mod_fits_73 : decode prog_14_method_38_code 73 = .ok (.goto 4, 3) := by decide +kernel
theorem d_Mod_fits_76 : decode prog_14_method_38_code 76 = .ok (.iconst 0, 1) := by decide +kernel
theorem d_Mod_fits_77 : decode prog_14_method_38_code 77 = .ok (.ireturn, 1) := by decide +kernel
theorem d_Mod_way_0 : decode prog_14_method_39_code 0 = .ok (.iload_n 2, 1) := by decide +kernel
theorem d_Mod_way_1 : decode prog_14_method_39_code 1 = .ok (.istore 5, 2) := by decide +kernel
theorem d_Mod_way_3 : decode prog_14_method_39_code 3 = .ok (.iconst 0, 1) := by decide +kernel
theorem d_Mod_way_4 : decode prog_14_method_39_code 4 = .ok (.istore 6, 2) := by decide +kernel
theorem d_Mod_way_6 : decode prog_14_method_39_code 6 = .ok (.aload_n 0, 1) := by decide +kernel
theorem d_Mod_way_7 : decode prog_14_method_39_code 7 = .ok (.iconst 0, 1) := by decide +kernel
theorem d_Mod_way_8 : decode prog_14_method_39_code 8 = .ok (.putfield 296, 3) := by decide +kernel
theorem d_Mod_way_11 : decode prog_14_method_39_code 11 = .ok (.iconst 1, 1) := by decide +kernel
theorem d_Mod_way_12 : decode prog_14_method_39_code 12 = .ok (.istore 7, 2) := by decide +kernel
theorem d_Mod_way_14 : decode prog_14_method_39_code 14 = .ok (.iload 7, 2) := by decide +kernel
theorem d_Mod_way_16 : decode prog_14_method_39_code 16 = .ok (.iconst 4, 1) := by decide +kernel
theorem d_Mod_way_17 : decode prog_14_method_39_code 17 = .ok (.if_icmp .ge 17, 3) := by decide +kernel
theorem d_Mod_way_20 : decode prog_14_method_39_code 20 = .ok (.aload_n 0, 1) := by decide +kernel
theorem d_Mod_way_21 : decode prog_14_method_39_code 21 = .ok (.getfield 124, 3) := by decide +kernel
theorem d_Mod_way_24 : decode prog_14_method_39_code 24 = .ok (.iload 7, 2) := by decide +kernel
theorem d_Mod_way_26 : decode prog_14_method_39_code 26 = .ok (.iconst (-1), 1) := by decide +kernel
theorem d_Mod_way_27 : decode prog_14_method_39_code 27 = .ok (.iastore, 1) := by decide +kernel
theorem d_Mod_way_28 : decode prog_14_method_39_code 28 = .ok (.iinc 7 1, 3) := by decide +kernel
theorem d_Mod_way_31 : decode prog_14_method_39_code 31 = .ok (.goto (-17), 3) := by decide +kernel
theorem d_Mod_way_34 : decode prog_14_method_39_code 34 = .ok (.iconst 1, 1) := by decide +kernel
theorem d_Mod_way_35 : decode prog_14_method_39_code 35 = .ok (.istore 7, 2) := by decide +kernel
theorem d_Mod_way_37 : decode prog_14_method_39_code 37 = .ok (.iload 7, 2) := by decide +kernel
theorem d_Mod_way_39 : decode prog_14_method_39_code 39 = .ok (.iconst 4, 1) := by decide +kernel
theorem d_Mod_way_40 : decode prog_14_method_39_code 40 = .ok (.if_icmp .ge 17, 3) := by decide +kernel
theorem d_Mod_way_43 : decode prog_14_method_39_code 43 = .ok (.aload_n 0, 1) := by decide +kernel
theorem d_Mod_way_44 : decode prog_14_method_39_code 44 = .ok (.getfield 127, 3) := by decide +kernel
theorem d_Mod_way_47 : decode prog_14_method_39_code 47 = .ok (.iload 7, 2) := by decide +kernel
theorem d_Mod_way_49 : decode prog_14_method_39_code 49 = .ok (.iconst (-1), 1) := by decide +kernel
theorem d_Mod_way_50 : decode prog_14_method_39_code 50 = .ok (.iastore, 1) := by decide +kernel
theorem d_Mod_way_51 : decode prog_14_method_39_code 51 = .ok (.iinc 7 1, 3) := by decide +kernel
theorem d_Mod_way_54 : decode prog_14_method_39_code 54 = .ok (.goto (-17), 3) := by decide +kernel
theorem d_Mod_way_57 : decode prog_14_method_39_code 57 = .ok (.aload_n 0, 1) := by decide +kernel
theorem d_Mod_way_58 : decode prog_14_method_39_code 58 = .ok (.getfield 102, 3) := by decide +kernel
theorem d_Mod_way_61 : decode prog_14_method_39_code 61 = .ok (.iload_n 1, 1) := by decide +kernel
theorem d_Mod_way_62 : decode prog_14_method_39_code 62 = .ok (.baload, 1) := by decide +kernel
theorem d_Mod_way_63 : decode prog_14_method_39_code 63 = .ok (.ifCond .eq 9, 3) := by decide +kernel
theorem d_Mod_way_66 : decode prog_14_method_39_code 66 = .ok (.iload_n 2, 1) := by decide +kernel
theorem d_Mod_way_67 : decode prog_14_method_39_code 67 = .ok (.ifCond .le 5, 3) := by decide +kernel
theorem d_Mod_way_70 : decode prog_14_method_39_code 70 = .ok (.iconst (-1), 1) := by decide +kernel
theorem d_Mod_way_71 : decode prog_14_method_39_code 71 = .ok (.ireturn, 1) := by decide +kernel
theorem d_Mod_way_72 : decode prog_14_method_39_code 72 = .ok (.aload_n 0, 1) := by decide +kernel
theorem d_Mod_way_73 : decode prog_14_method_39_code 73 = .ok (.getfield 81, 3) := by decide +kernel
theorem d_Mod_way_76 : decode prog_14_method_39_code 76 = .ok (.iload_n 1, 1) := by decide +kernel
theorem d_Mod_way_77 : decode prog_14_method_39_code 77 = .ok (.iaload, 1) := by decide +kernel
theorem d_Mod_way_78 : decode prog_14_method_39_code 78 = .ok (.istore 7, 2) := by decide +kernel
theorem d_Mod_way_80 : decode prog_14_method_39_code 80 = .ok (.iload 7, 2) := by decide +kernel
theorem d_Mod_way_82 : decode prog_14_method_39_code 82 = .ok (.aload_n 0, 1) := by decide +kernel
theorem d_Mod_way_83 : decode prog_14_method_39_code 83 = .ok (.getfield 84, 3) := by decide +kernel
theorem d_Mod_way_86 : decode prog_14_method_39_code 86 = .ok (.iload_n 1, 1) := by decide +kernel
theorem d_Mod_way_87 : decode prog_14_method_39_code 87 = .ok (.iaload, 1) := by decide +kernel
theorem d_Mod_way_88 : decode prog_14_method_39_code 88 = .ok (.if_icmp .ge 258, 3) := by decide +kernel
theorem d_Mod_way_91 : decode prog_14_method_39_code 91 = .ok (.aload_n 0, 1) := by decide +kernel
theorem d_Mod_way_92 : decode prog_14_method_39_code 92 = .ok (.getfield 90, 3) := by decide +kernel
theorem d_Mod_way_95 : decode prog_14_method_39_code 95 = .ok (.iload 7, 2) := by decide +kernel
theorem d_Mod_way_97 : decode prog_14_method_39_code 97 = .ok (.iaload, 1) := by decide +kernel
theorem d_Mod_way_98 : decode prog_14_method_39_code 98 = .ok (.istore 8, 2) := by decide +kernel
theorem d_Mod_way_100 : decode prog_14_method_39_code 100 = .ok (.aload_n 0, 1) := by decide +kernel
theorem d_Mod_way_101 : decode prog_14_method_39_code 101 = .ok (.getfield 93, 3) := by decide +kernel
theorem d_Mod_way_104 : decode prog_14_method_39_code 104 = .ok (.iload 7, 2) := by decide +kernel
theorem d_Mod_way_106 : decode prog_14_method_39_code 106 = .ok (.iaload, 1) := by decide +kernel
theorem d_Mod_way_107 : decode prog_14_method_39_code 107 = .ok (.istore 9, 2) := by decide +kernel
theorem d_Mod_way_109 : decode prog_14_method_39_code 109 = .ok (.iload 8, 2) := by decide +kernel
theorem d_Mod_way_111 : decode prog_14_method_39_code 111 = .ok (.iconst 4, 1) := by decide +kernel
theorem d_Mod_way_112 : decode prog_14_method_39_code 112 = .ok (.if_icmp .ne 15, 3) := by decide +kernel
theorem d_Mod_way_115 : decode prog_14_method_39_code 115 = .ok (.aload_n 0, 1) := by decide +kernel
theorem d_Mod_way_116 : decode prog_14_method_39_code 116 = .ok (.getfield 124, 3) := by decide +kernel
theorem d_Mod_way_119 : decode prog_14_method_39_code 119 = .ok (.iload 9, 2) := by decide +kernel
theorem d_Mod_way_121 : decode prog_14_method_39_code 121 = .ok (.iload 5, 2) := by decide +kernel
theorem d_Mod_way_123 : decode prog_14_method_39_code 123 = .ok (.iastore, 1) := by decide +kernel
theorem d_Mod_way_124 : decode prog_14_method_39_code 124 = .ok (.goto 216, 3) := by decide +kernel
theorem d_Mod_way_127 : decode prog_14_method_39_code 127 = .ok (.iload 8, 2) := by decide +kernel
theorem d_Mod_way_129 : decode prog_14_method_39_code 129 = .ok (.iconst 5, 1) := by decide +kernel
theorem d_Mod_way_130 : decode prog_14_method_39_code 130 = .ok (.if_icmp .ne 23, 3) := by decide +kernel
theorem d_Mod_way_133 : decode prog_14_method_39_code 133 = .ok (.aload_n 0, 1) := by decide +kernel
theorem d_Mod_way_134 : decode prog_14_method_39_code 134 = .ok (.getfield 127, 3) := by decide +kernel
theorem d_Mod_way_137 : decode prog_14_method_39_code 137 = .ok (.iload 9, 2) := by decide +kernel
theorem d_Mod_way_139 : decode prog_14_method_39_code 139 = .ok (.iload 5, 2) := by decide +kernel
theorem d_Mod_way_141 : decode prog_14_method_39_code 141 = .ok (.aload_n 0, 1) := by decide +kernel
theorem d_Mod_way_142 : decode prog_14_method_39_code 142 = .ok (.getfield 124, 3) := by decide +kernel
theorem d_Mod_way_145 : decode prog_14_method_39_code 145 = .ok (.iload 9, 2) := by decide +kernel
theorem d_Mod_way_147 : decode prog_14_method_39_code 147 = .ok (.iaload, 1) := by decide +kernel
theorem d_Mod_way_148 : decode prog_14_method_39_code 148 = .ok (.isub, 1) := by decide +kernel
theorem d_Mod_way_149 : decode prog_14_method_39_code 149 = .ok (.iastore, 1) := by decide +kernel
theorem d_Mod_way_150 : decode prog_14_method_39_code 150 = .ok (.goto 190, 3) := by decide +kernel
theorem d_Mod_way_153 : decode prog_14_method_39_code 153 = .ok (.iload 8, 2) := by decide +kernel
theorem d_Mod_way_155 : decode prog_14_method_39_code 155 = .ok (.iconst 3, 1) := by decide +kernel
theorem d_Mod_way_156 : decode prog_14_method_39_code 156 = .ok (.if_icmp .ne 81, 3) := by decide +kernel
theorem d_Mod_way_159 : decode prog_14_method_39_code 159 = .ok (.iconst 0, 1) := by decide +kernel
theorem d_Mod_way_160 : decode prog_14_method_39_code 160 = .ok (.istore 10, 2) := by decide +kernel
theorem d_Mod_way_162 : decode prog_14_method_39_code 162 = .ok (.iload 10, 2) := by decide +kernel
theorem d_Mod_way_164 : decode prog_14_method_39_code 164 = .ok (.aload_n 0, 1) := by decide +kernel
theorem d_Mod_way_165 : decode prog_14_method_39_code 165 = .ok (.getfield 127, 3) := by decide +kernel
theorem d_Mod_way_168 : decode prog_14_method_39_code 168 = .ok (.iload 9, 2) := by decide +kernel
theorem d_Mod_way_170 : decode prog_14_method_39_code 170 = .ok (.iaload, 1) := by decide +kernel
theorem d_Mod_way_171 : decode prog_14_method_39_code 171 = .ok (.if_icmp .ge 51, 3) := by decide +kernel
theorem d_Mod_way_174 : decode prog_14_method_39_code 174 = .ok (.iload 5, 2) := by decide +kernel
theorem d_Mod_way_176 : decode prog_14_method_39_code 176 = .ok (.iload 10, 2) := by decide +kernel
theorem d_Mod_way_178 : decode prog_14_method_39_code 178 = .ok (.iadd, 1) := by decide +kernel
theorem d_Mod_way_179 : decode prog_14_method_39_code 179 = .ok (.aload_n 0, 1) := by decide +kernel
theorem d_Mod_way_180 : decode prog_14_method_39_code 180 = .ok (.getfield 299, 3) := by decide +kernel
theorem d_Mod_way_183 : decode prog_14_method_39_code 183 = .ok (.if_icmp .ge 31, 3) := by decide +kernel
theorem d_Mod_way_186 : decode prog_14_method_39_code 186 = .ok (.aload_n 0, 1) := by decide +kernel
theorem d_Mod_way_187 : decode prog_14_method_39_code 187 = .ok (.getfield 121, 3) := by decide +kernel
theorem d_Mod_way_190 : decode prog_14_method_39_code 190 = .ok (.iload 5, 2) := by decide +kernel
theorem d_Mod_way_192 : decode prog_14_method_39_code 192 = .ok (.iload 10, 2) := by decide +kernel
theorem d_Mod_way_194 : decode prog_14_method_39_code 194 = .ok (.iadd, 1) := by decide +kernel
theorem d_Mod_way_195 : decode prog_14_method_39_code 195 = .ok (.iaload, 1) := by decide +kernel
theorem d_Mod_way_196 : decode prog_14_method_39_code 196 = .ok (.aload_n 0, 1) := by decide +kernel
theorem d_Mod_way_197 : decode prog_14_method_39_code 197 = .ok (.getfield 121, 3) := by decide +kernel
theorem d_Mod_way_200 : decode prog_14_method_39_code 200 = .ok (.aload_n 0, 1) := by decide +kernel
theorem d_Mod_way_201 : decode prog_14_method_39_code 201 = .ok (.getfield 124, 3) := by decide +kernel
theorem d_Mod_way_204 : decode prog_14_method_39_code 204 = .ok (.iload 9, 2) := by decide +kernel
theorem d_Mod_way_206 : decode prog_14_method_39_code 206 = .ok (.iaload, 1) := by decide +kernel
theorem d_Mod_way_207 : decode prog_14_method_39_code 207 = .ok (.iload 10, 2) := by decide +kernel
theorem d_Mod_way_209 : decode prog_14_method_39_code 209 = .ok (.iadd, 1) := by decide +kernel
theorem d_Mod_way_210 : decode prog_14_method_39_code 210 = .ok (.iaload, 1) := by decide +kernel
theorem d_Mod_way_211 : decode prog_14_method_39_code 211 = .ok (.if_icmp .eq 5, 3) := by decide +kernel
theorem d_Mod_way_214 : decode prog_14_method_39_code 214 = .ok (.iconst (-1), 1) := by decide +kernel
theorem d_Mod_way_215 : decode prog_14_method_39_code 215 = .ok (.ireturn, 1) := by decide +kernel
theorem d_Mod_way_216 : decode prog_14_method_39_code 216 = .ok (.iinc 10 1, 3) := by decide +kernel
theorem d_Mod_way_219 : decode prog_14_method_39_code 219 = .ok (.goto (-57), 3) := by decide +kernel
theorem d_Mod_way_222 : decode prog_14_method_39_code 222 = .ok (.iload 5, 2) := by decide +kernel
theorem d_Mod_way_224 : decode prog_14_method_39_code 224 = .ok (.aload_n 0, 1) := by decide +kernel
theorem d_Mod_way_225 : decode prog_14_method_39_code 225 = .ok (.getfield 127, 3) := by decide +kernel
theorem d_Mod_way_228 : decode prog_14_method_39_code 228 = .ok (.iload 9, 2) := by decide +kernel
theorem d_Mod_way_230 : decode prog_14_method_39_code 230 = .ok (.iaload, 1) := by decide +kernel
theorem d_Mod_way_231 : decode prog_14_method_39_code 231 = .ok (.iadd, 1) := by decide +kernel
theorem d_Mod_way_232 : decode prog_14_method_39_code 232 = .ok (.istore 5, 2) := by decide +kernel
theorem d_Mod_way_234 : decode prog_14_method_39_code 234 = .ok (.goto 106, 3) := by decide +kernel
theorem d_Mod_way_237 : decode prog_14_method_39_code 237 = .ok (.iconst 1, 1) := by decide +kernel
theorem d_Mod_way_238 : decode prog_14_method_39_code 238 = .ok (.istore 10, 2) := by decide +kernel
theorem d_Mod_way_240 : decode prog_14_method_39_code 240 = .ok (.aload_n 0, 1) := by decide +kernel
theorem d_Mod_way_241 : decode prog_14_method_39_code 241 = .ok (.getfield 99, 3) := by decide +kernel
theorem d_Mod_way_244 : decode prog_14_method_39_code 244 = .ok (.iload 7, 2) := by decide +kernel
theorem d_Mod_way_246 : decode prog_14_method_39_code 246 = .ok (.baload, 1) := by decide +kernel
theorem d_Mod_way_247 : decode prog_14_method_39_code 247 = .ok (.ifCond .eq 19, 3) := by decide +kernel
theorem d_Mod_way_250 : decode prog_14_method_39_code 250 = .ok (.iload 6, 2) := by decide +kernel
theorem d_Mod_way_252 : decode prog_14_method_39_code 252 = .ok (.ifCond .ne 7, 3) := by decide +kernel
theorem d_Mod_way_255 : decode prog_14_method_39_code 255 = .ok (.iload_n 3, 1) := by decide +kernel
theorem d_Mod_way_256 : decode prog_14_method_39_code 256 = .ok (.goto 5, 3) := by decide +kernel
theorem d_Mod_way_259 : decode prog_14_method_39_code 259 = .ok (.iload 4, 2) := by decide +kernel
theorem d_Mod_way_261 : decode prog_14_method_39_code 261 = .ok (.istore 10, 2) := by decide +kernel
theorem d_Mod_way_263 : decode prog_14_method_39_code 263 = .ok (.iinc 6 1, 3) := by decide +kernel
theorem d_Mod_way_266 : decode prog_14_method_39_code 266 = .ok (.iconst 0, 1) := by decide +kernel
theorem d_Mod_way_267 : decode prog_14_method_39_code 267 = .ok (.istore 11, 2) := by decide +kernel
theorem d_Mod_way_269 : decode prog_14_method_39_code 269 = .ok (.iload 11, 2) := by decide +kernel
theorem d_Mod_way_271 : decode prog_14_method_39_code 271 = .ok (.iload 10, 2) := by decide +kernel
theorem d_Mod_way_273 : decode prog_14_method_39_code 273 = .ok (.if_icmp .ge 67, 3) := by decide +kernel
theorem d_Mod_way_276 : decode prog_14_method_39_code 276 = .ok (.iload 5, 2) := by decide +kernel
theorem d_Mod_way_278 : decode prog_14_method_39_code 278 = .ok (.aload_n 0, 1) := by decide +kernel
theorem d_Mod_way_279 : decode prog_14_method_39_code 279 = .ok (.getfield 299, 3) := by decide +kernel
theorem d_Mod_way_282 : decode prog_14_method_39_code 282 = .ok (.if_icmp .ge 23, 3) := by decide +kernel
theorem d_Mod_way_285 : decode prog_14_method_39_code 285 = .ok (.aload_n 0, 1) := by decide +kernel
theorem d_Mod_way_286 : decode prog_14_method_39_code 286 = .ok (.iload 7, 2) := by decide +kernel
theorem d_Mod_way_288 : decode prog_14_method_39_code 288 = .ok (.aload_n 0, 1) := by decide +kernel
theorem d_Mod_way_289 : decode prog_14_method_39_code 289 = .ok (.getfield 121, 3) := by decide +kernel
theorem d_Mod_way_292 : decode prog_14_method_39_code 292 = .ok (.iload 5, 2) := by decide +kernel
theorem d_Mod_way_294 : decode prog_14_method_39_code 294 = .ok (.iaload, 1) := by decide +kernel
theorem d_Mod_way_295 : decode prog_14_method_39_code 295 = .ok (.invokevirtual 302, 3) := by decide +kernel
theorem d_Mod_way_298 : decode prog_14_method_39_code 298 = .ok (.ifCond .eq 7, 3) := by decide +kernel
theorem d_Mod_way_301 : decode prog_14_method_39_code 301 = .ok (.iconst 1, 1) := by decide +kernel
theorem d_Mod_way_302 : decode prog_14_method_39_code 302 = .ok (.goto 4, 3) := by decide +kernel
theorem d_Mod_way_305 : decode prog_14_method_39_code 305 = .ok (.iconst 0, 1) := by decide +kernel
theorem d_Mod_way_306 : decode prog_14_method_39_code 306 = .ok (.istore 12, 2) := by decide +kernel
theorem d_Mod_way_308 : decode prog_14_method_39_code 308 = .ok (.iload 12, 2) := by decide +kernel
theorem d_Mod_way_310 : decode prog_14_method_39_code 310 = .ok (.ifCond .ne 21, 3) := by decide +kernel
theorem d_Mod_way_313 : decode prog_14_method_39_code 313 = .ok (.aload_n 0, 1) := by decide +kernel
theorem d_Mod_way_314 : decode prog_14_method_39_code 314 = .ok (.getfield 99, 3) := by decide +kernel
theorem d_Mod_way_317 : decode prog_14_method_39_code 317 = .ok (.iload 7, 2) := by decide +kernel
theorem d_Mod_way_319 : decode prog_14_method_39_code 319 = .ok (.baload, 1) := by decide +kernel
theorem d_Mod_way_320 : decode prog_14_method_39_code 320 = .ok (.ifCond .eq 9, 3) := by decide +kernel
theorem d_Mod_way_323 : decode prog_14_method_39_code 323 = .ok (.aload_n 0, 1) := by decide +kernel
theorem d_Mod_way_324 : decode prog_14_method_39_code 324 = .ok (.iload 6, 2) := by decide +kernel
theorem d_Mod_way_326 : decode prog_14_method_39_code 326 = .ok (.putfield 296, 3) := by decide +kernel
theorem d_Mod_way_329 : decode prog_14_method_39_code 329 = .ok (.iconst (-1), 1) := by decide +kernel
theorem d_Mod_way_330 : decode prog_14_method_39_code 330 = .ok (.ireturn, 1) := by decide +kernel
theorem d_Mod_way_331 : decode prog_14_method_39_code 331 = .ok (.iinc 5 1, 3) := by decide +kernel
theorem d_Mod_way_334 : decode prog_14_method_39_code 334 = .ok (.iinc 11 1, 3) := by decide +kernel
theorem d_Mod_way_337 : decode prog_14_method_39_code 337 = .ok (.goto (-68), 3) := by decide +kernel
theorem d_Mod_way_340 : decode prog_14_method_39_code 340 = .ok (.iinc 7 1, 3) := by decide +kernel
theorem d_Mod_way_343 : decode prog_14_method_39_code 343 = .ok (.goto (-263), 3) := by decide +kernel
theorem d_Mod_way_346 : decode prog_14_method_39_code 346 = .ok (.aload_n 0, 1) := by decide +kernel
theorem d_Mod_way_347 : decode prog_14_method_39_code 347 = .ok (.getfield 105, 3) := by decide +kernel
theorem d_Mod_way_350 : decode prog_14_method_39_code 350 = .ok (.iload_n 1, 1) := by decide +kernel
theorem d_Mod_way_351 : decode prog_14_method_39_code 351 = .ok (.baload, 1) := by decide +kernel
theorem d_Mod_way_352 : decode prog_14_method_39_code 352 = .ok (.ifCond .eq 16, 3) := by decide +kernel
theorem d_Mod_way_355 : decode prog_14_method_39_code 355 = .ok (.iload 5, 2) := by decide +kernel
theorem d_Mod_way_357 : decode prog_14_method_39_code 357 = .ok (.aload_n 0, 1) := by decide +kernel
theorem d_Mod_way_358 : decode prog_14_method_39_code 358 = .ok (.getfield 299, 3) := by decide +kernel
theorem d_Mod_way_361 : decode prog_14_method_39_code 361 = .ok (.if_icmp .ge 7, 3) := by decide +kernel
theorem d_Mod_way_364 : decode prog_14_method_39_code 364 = .ok (.iconst (-1), 1) := by decide +kernel
theorem d_Mod_way_365 : decode prog_14_method_39_code 365 = .ok (.goto 5, 3) := by decide +kernel
theorem d_Mod_way_368 : decode prog_14_method_39_code 368 = .ok (.iload 5, 2) := by decide +kernel
theorem d_Mod_way_370 : decode prog_14_method_39_code 370 = .ok (.ireturn, 1) := by decide +kernel
theorem d_Mod_starsOf_0 : decode prog_14_method_40_code 0 = .ok (.iconst 0, 1) := by decide +kernel
theorem d_Mod_starsOf_1 : decode prog_14_method_40_code 1 = .ok (.istore_n 2, 1) := by decide +kernel
theorem d_Mod_starsOf_2 : decode prog_14_method_40_code 2 = .ok (.aload_n 0, 1) := by decide +kernel
theorem d_Mod_starsOf_3 : decode prog_14_method_40_code 3 = .ok (.getfield 81, 3) := by decide +kernel
theorem d_Mod_starsOf_6 : decode prog_14_method_40_code 6 = .ok (.iload_n 1, 1) := by decide +kernel
theorem d_Mod_starsOf_7 : decode prog_14_method_40_code 7 = .ok (.iaload, 1) := by decide +kernel
theorem d_Mod_starsOf_8 : decode prog_14_method_40_code 8 = .ok (.istore_n 3, 1) := by decide +kernel
theorem d_Mod_starsOf_9 : decode prog_14_method_40_code 9 = .ok (.iload_n 3, 1) := by decide +kernel
theorem d_Mod_starsOf_10 : decode prog_14_method_40_code 10 = .ok (.aload_n 0, 1) := by decide +kernel
theorem d_Mod_starsOf_11 : decode prog_14_method_40_code 11 = .ok (.getfield 84, 3) := by decide +kernel
theorem d_Mod_starsOf_14 : decode prog_14_method_40_code 14 = .ok (.iload_n 1, 1) := by decide +kernel
theorem d_Mod_starsOf_15 : decode prog_14_method_40_code 15 = .ok (.iaload, 1) := by decide +kernel
theorem d_Mod_starsOf_16 : decode prog_14_method_40_code 16 = .ok (.if_icmp .ge 21, 3) := by decide +kernel
theorem d_Mod_starsOf_19 : decode prog_14_method_40_code 19 = .ok (.aload_n 0, 1) := by decide +kernel
theorem d_Mod_starsOf_20 : decode prog_14_method_40_code 20 = .ok (.getfield 99, 3) := by decide +kernel
theorem d_Mod_starsOf_23 : decode prog_14_method_40_code 23 = .ok (.iload_n 3, 1) := by decide +kernel
theorem d_Mod_starsOf_24 : decode prog_14_method_40_code 24 = .ok (.baload, 1) := by decide +kernel
theorem d_Mod_starsOf_25 : decode prog_14_method_40_code 25 = .ok (.ifCond .eq 6, 3) := by decide +kernel
theorem d_Mod_starsOf_28 : decode prog_14_method_40_code 28 = .ok (.iinc 2 1, 3) := by decide +kernel
theorem d_Mod_starsOf_31 : decode prog_14_method_40_code 31 = .ok (.iinc 3 1, 3) := by decide +kernel
theorem d_Mod_starsOf_34 : decode prog_14_method_40_code 34 = .ok (.goto (-25), 3) := by decide +kernel
theorem d_Mod_starsOf_37 : decode prog_14_method_40_code 37 = .ok (.iload_n 2, 1) := by decide +kernel
theorem d_Mod_starsOf_38 : decode prog_14_method_40_code 38 = .ok (.ireturn, 1) := by decide +kernel
theorem d_Mod_find_0 : decode prog_14_method_41_code 0 = .ok (.aload_n 0, 1) := by decide +kernel
theorem d_Mod_find_1 : decode prog_14_method_41_code 1 = .ok (.iload_n 1, 1) := by decide +kernel
theorem d_Mod_find_2 : decode prog_14_method_41_code 2 = .ok (.invokevirtual 306, 3) := by decide +kernel
theorem d_Mod_find_5 : decode prog_14_method_41_code 5 = .ok (.istore_n 3, 1) := by decide +kernel
theorem d_Mod_find_6 : decode prog_14_method_41_code 6 = .ok (.iload_n 2, 1) := by decide +kernel
theorem d_Mod_find_7 : decode prog_14_method_41_code 7 = .ok (.istore 4, 2) := by decide +kernel
theorem d_Mod_find_9 : decode prog_14_method_41_code 9 = .ok (.iload 4, 2) := by decide +kernel
theorem d_Mod_find_11 : decode prog_14_method_41_code 11 = .ok (.aload_n 0, 1) := by decide +kernel
theorem d_Mod_find_12 : decode prog_14_method_41_code 12 = .ok (.getfield 299, 3) := by decide +kernel
theorem d_Mod_find_15 : decode prog_14_method_41_code 15 = .ok (.if_icmp .gt 176, 3) := by decide +kernel
theorem d_Mod_find_18 : decode prog_14_method_41_code 18 = .ok (.iconst (-1), 1) := by decide +kernel
theorem d_Mod_find_19 : decode prog_14_method_41_code 19 = .ok (.istore 5, 2) := by decide +kernel
theorem d_Mod_find_21 : decode prog_14_method_41_code 21 = .ok (.iconst 0, 1) := by decide +kernel
theorem d_Mod_find_22 : decode prog_14_method_41_code 22 = .ok (.istore 6, 2) := by decide +kernel
theorem d_Mod_find_24 : decode prog_14_method_41_code 24 = .ok (.iconst 0, 1) := by decide +kernel
theorem d_Mod_find_25 : decode prog_14_method_41_code 25 = .ok (.istore 7, 2) := by decide +kernel
theorem d_Mod_find_27 : decode prog_14_method_41_code 27 = .ok (.iconst 1, 1) := by decide +kernel
theorem d_Mod_find_28 : decode prog_14_method_41_code 28 = .ok (.istore 8, 2) := by decide +kernel
theorem d_Mod_find_30 : decode prog_14_method_41_code 30 = .ok (.iconst 0, 1) := by decide +kernel
theorem d_Mod_find_31 : decode prog_14_method_41_code 31 = .ok (.istore 9, 2) := by decide +kernel
theorem d_Mod_find_33 : decode prog_14_method_41_code 33 = .ok (.iload 9, 2) := by decide +kernel
theorem d_Mod_find_35 : decode prog_14_method_41_code 35 = .ok (.iload_n 3, 1) := by decide +kernel
theorem d_Mod_find_36 : decode prog_14_method_41_code 36 = .ok (.ifCond .le 10, 3) := by decide +kernel
theorem d_Mod_find_39 : decode prog_14_method_41_code 39 = .ok (.aload_n 0, 1) := by decide +kernel
theorem d_Mod_find_40 : decode prog_14_method_41_code 40 = .ok (.getfield 299, 3) := by decide +kernel
theorem d_Mod_find_43 : decode prog_14_method_41_code 43 = .ok (.goto 4, 3) := by decide +kernel
theorem d_Mod_find_46 : decode prog_14_method_41_code 46 = .ok (.iconst 0, 1) := by decide +kernel
theorem d_Mod_find_47 : decode prog_14_method_41_code 47 = .ok (.if_icmp .gt 107, 3) := by decide +kernel
theorem d_Mod_find_50 : decode prog_14_method_41_code 50 = .ok (.iload 8, 2) := by decide +kernel
theorem d_Mod_find_52 : decode prog_14_method_41_code 52 = .ok (.ifCond .eq 102, 3) := by decide +kernel
theorem d_Mod_find_55 : decode prog_14_method_41_code 55 = .ok (.iconst 1, 1) := by decide +kernel
theorem d_Mod_find_56 : decode prog_14_method_41_code 56 = .ok (.istore 10, 2) := by decide +kernel
theorem d_Mod_find_58 : decode prog_14_method_41_code 58 = .ok (.iconst 0, 1) := by decide +kernel
theorem d_Mod_find_59 : decode prog_14_method_41_code 59 = .ok (.istore 11, 2) := by decide +kernel
theorem d_Mod_find_61 : decode prog_14_method_41_code 61 = .ok (.iload 11, 2) := by decide +kernel
theorem d_Mod_find_63 : decode prog_14_method_41_code 63 = .ok (.iload_n 3, 1) := by decide +kernel
theorem d_Mod_find_64 : decode prog_14_method_41_code 64 = .ok (.iconst 1, 1) := by decide +kernel
theorem d_Mod_find_65 : decode prog_14_method_41_code 65 = .ok (.if_icmp .le 10, 3) := by decide +kernel
theorem d_Mod_find_68 : decode prog_14_method_41_code 68 = .ok (.aload_n 0, 1) := by decide +kernel
theorem d_Mod_find_69 : decode prog_14_method_41_code 69 = .ok (.getfield 299, 3) := by decide +kernel
theorem d_Mod_find_72 : decode prog_14_method_41_code 72 = .ok (.goto 4, 3) := by decide +kernel
theorem d_Mod_find_75 : decode prog_14_method_41_code 75 = .ok (.iconst 0, 1) := by decide +kernel
theorem d_Mod_find_76 : decode prog_14_method_41_code 76 = .ok (.if_icmp .gt 72, 3) := by decide +kernel
theorem d_Mod_find_79 : decode prog_14_method_41_code 79 = .ok (.iload 10, 2) := by decide +kernel
theorem d_Mod_find_81 : decode prog_14_method_41_code 81 = .ok (.ifCond .eq 67, 3) := by decide +kernel
theorem d_Mod_find_84 : decode prog_14_method_41_code 84 = .ok (.aload_n 0, 1) := by decide +kernel
theorem d_Mod_find_85 : decode prog_14_method_41_code 85 = .ok (.iload_n 1, 1) := by decide +kernel
theorem d_Mod_find_86 : decode prog_14_method_41_code 86 = .ok (.iload 4, 2) := by decide +kernel
theorem d_Mod_find_88 : decode prog_14_method_41_code 88 = .ok (.iload 9, 2) := by decide +kernel
theorem d_Mod_find_90 : decode prog_14_method_41_code 90 = .ok (.iload 11, 2) := by decide +kernel
theorem d_Mod_find_92 : decode prog_14_method_41_code 92 = .ok (.invokevirtual 309, 3) := by decide +kernel
theorem d_Mod_find_95 : decode prog_14_method_41_code 95 = .ok (.istore 12, 2) := by decide +kernel
theorem d_Mod_find_97 : decode prog_14_method_41_code 97 = .ok (.iload 12, 2) := by decide +kernel
theorem d_Mod_find_99 : decode prog_14_method_41_code 99 = .ok (.iload 5, 2) := by decide +kernel
theorem d_Mod_find_101 : decode prog_14_method_41_code 101 = .ok (.if_icmp .lt 20, 3) := by decide +kernel
theorem d_Mod_find_104 : decode prog_14_method_41_code 104 = .ok (.iload 12, 2) := by decide +kernel
theorem d_Mod_find_106 : decode prog_14_method_41_code 106 = .ok (.ifCond .lt 15, 3) := by decide +kernel
theorem d_Mod_find_109 : decode prog_14_method_41_code 109 = .ok (.iload 12, 2) := by decide +kernel
theorem d_Mod_find_111 : decode prog_14_method_41_code 111 = .ok (.istore 5, 2) := by decide +kernel
theorem d_Mod_find_113 : decode prog_14_method_41_code 113 = .ok (.iload 9, 2) := by decide +kernel
theorem d_Mod_find_115 : decode prog_14_method_41_code 115 = .ok (.istore 6, 2) := by decide +kernel
theorem d_Mod_find_117 : decode prog_14_method_41_code 117 = .ok (.iload 11, 2) := by decide +kernel
theorem d_Mod_find_119 : decode prog_14_method_41_code 119 = .ok (.istore 7, 2) := by decide +kernel
theorem d_Mod_find_121 : decode prog_14_method_41_code 121 = .ok (.aload_n 0, 1) := by decide +kernel
theorem d_Mod_find_122 : decode prog_14_method_41_code 122 = .ok (.getfield 296, 3) := by decide +kernel
theorem d_Mod_find_125 : decode prog_14_method_41_code 125 = .ok (.ifCond .le 6, 3) := by decide +kernel
theorem d_Mod_find_128 : decode prog_14_method_41_code 128 = .ok (.iconst 0, 1) := by decide +kernel
theorem d_Mod_find_129 : decode prog_14_method_41_code 129 = .ok (.istore 10, 2) := by decide +kernel
theorem d_Mod_find_131 : decode prog_14_method_41_code 131 = .ok (.aload_n 0, 1) := by decide +kernel
theorem d_Mod_find_132 : decode prog_14_method_41_code 132 = .ok (.getfield 296, 3) := by decide +kernel
theorem d_Mod_find_135 : decode prog_14_method_41_code 135 = .ok (.iconst 1, 1) := by decide +kernel
theorem d_Mod_find_136 : decode prog_14_method_41_code 136 = .ok (.if_icmp .ne 6, 3) := by decide +kernel
theorem d_Mod_find_139 : decode prog_14_method_41_code 139 = .ok (.iconst 0, 1) := by decide +kernel
theorem d_Mod_find_140 : decode prog_14_method_41_code 140 = .ok (.istore 8, 2) := by decide +kernel
theorem d_Mod_find_142 : decode prog_14_method_41_code 142 = .ok (.iinc 11 1, 3) := by decide +kernel
theorem d_Mod_find_145 : decode prog_14_method_41_code 145 = .ok (.goto (-84), 3) := by decide +kernel
theorem d_Mod_find_148 : decode prog_14_method_41_code 148 = .ok (.iinc 9 1, 3) := by decide +kernel
theorem d_Mod_find_151 : decode prog_14_method_41_code 151 = .ok (.goto (-118), 3) := by decide +kernel
theorem d_Mod_find_154 : decode prog_14_method_41_code 154 = .ok (.iload 5, 2) := by decide +kernel
theorem d_Mod_find_156 : decode prog_14_method_41_code 156 = .ok (.ifCond .ge 6, 3) := by decide +kernel
theorem d_Mod_find_159 : decode prog_14_method_41_code 159 = .ok (.goto 26, 3) := by decide +kernel
theorem d_Mod_find_162 : decode prog_14_method_41_code 162 = .ok (.aload_n 0, 1) := by decide +kernel
theorem d_Mod_find_163 : decode prog_14_method_41_code 163 = .ok (.iload 4, 2) := by decide +kernel
theorem d_Mod_find_165 : decode prog_14_method_41_code 165 = .ok (.putfield 313, 3) := by decide +kernel
theorem d_Mod_find_168 : decode prog_14_method_41_code 168 = .ok (.aload_n 0, 1) := by decide +kernel
theorem d_Mod_find_169 : decode prog_14_method_41_code 169 = .ok (.aload_n 0, 1) := by decide +kernel
theorem d_Mod_find_170 : decode prog_14_method_41_code 170 = .ok (.iload_n 1, 1) := by decide +kernel
theorem d_Mod_find_171 : decode prog_14_method_41_code 171 = .ok (.iload 4, 2) := by decide +kernel
theorem d_Mod_find_173 : decode prog_14_method_41_code 173 = .ok (.iload 6, 2) := by decide +kernel
theorem d_Mod_find_175 : decode prog_14_method_41_code 175 = .ok (.iload 7, 2) := by decide +kernel
theorem d_Mod_find_177 : decode prog_14_method_41_code 177 = .ok (.invokevirtual 309, 3) := by decide +kernel
theorem d_Mod_find_180 : decode prog_14_method_41_code 180 = .ok (.putfield 316, 3) := by decide +kernel
theorem d_Mod_find_183 : decode prog_14_method_41_code 183 = .ok (.iconst 1, 1) := by decide +kernel
theorem d_Mod_find_184 : decode prog_14_method_41_code 184 = .ok (.ireturn, 1) := by decide +kernel
theorem d_Mod_find_185 : decode prog_14_method_41_code 185 = .ok (.iinc 4 1, 3) := by decide +kernel
theorem d_Mod_find_188 : decode prog_14_method_41_code 188 = .ok (.goto (-179), 3) := by decide +kernel
theorem d_Mod_find_191 : decode prog_14_method_41_code 191 = .ok (.iconst 0, 1) := by decide +kernel
theorem d_Mod_find_192 : decode prog_14_method_41_code 192 = .ok (.ireturn, 1) := by decide +kernel
