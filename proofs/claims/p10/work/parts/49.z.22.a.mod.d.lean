theorem d_Mod_substitute_0 : decode prog_14_method_27_code 0 = .ok (.aload_n 0, 1) := by decide +kernel
theorem d_Mod_substitute_1 : decode prog_14_method_27_code 1 = .ok (.bipush 47, 2) := by decide +kernel
theorem d_Mod_substitute_3 : decode prog_14_method_27_code 3 = .ok (.invokevirtual 246, 3) := by decide +kernel
theorem d_Mod_substitute_6 : decode prog_14_method_27_code 6 = .ok (.aload_n 0, 1) := by decide +kernel
theorem d_Mod_substitute_7 : decode prog_14_method_27_code 7 = .ok (.getfield 179, 3) := by decide +kernel
theorem d_Mod_substitute_10 : decode prog_14_method_27_code 10 = .ok (.ifCond .eq 4, 3) := by decide +kernel
theorem d_Mod_substitute_13 : decode prog_14_method_27_code 13 = .ok (.return_, 1) := by decide +kernel
theorem d_Mod_substitute_14 : decode prog_14_method_27_code 14 = .ok (.aload_n 0, 1) := by decide +kernel
theorem d_Mod_substitute_15 : decode prog_14_method_27_code 15 = .ok (.getfield 38, 3) := by decide +kernel
theorem d_Mod_substitute_18 : decode prog_14_method_27_code 18 = .ok (.iload_n 1, 1) := by decide +kernel
theorem d_Mod_substitute_19 : decode prog_14_method_27_code 19 = .ok (.aload_n 0, 1) := by decide +kernel
theorem d_Mod_substitute_20 : decode prog_14_method_27_code 20 = .ok (.invokevirtual 237, 3) := by decide +kernel
theorem d_Mod_substitute_23 : decode prog_14_method_27_code 23 = .ok (.iastore, 1) := by decide +kernel
theorem d_Mod_substitute_24 : decode prog_14_method_27_code 24 = .ok (.aload_n 0, 1) := by decide +kernel
theorem d_Mod_substitute_25 : decode prog_14_method_27_code 25 = .ok (.getfield 179, 3) := by decide +kernel
theorem d_Mod_substitute_28 : decode prog_14_method_27_code 28 = .ok (.ifCond .ne 8, 3) := by decide +kernel
theorem d_Mod_substitute_31 : decode prog_14_method_27_code 31 = .ok (.aload_n 0, 1) := by decide +kernel
theorem d_Mod_substitute_32 : decode prog_14_method_27_code 32 = .ok (.iload_n 1, 1) := by decide +kernel
theorem d_Mod_substitute_33 : decode prog_14_method_27_code 33 = .ok (.invokevirtual 249, 3) := by decide +kernel
theorem d_Mod_substitute_36 : decode prog_14_method_27_code 36 = .ok (.aload_n 0, 1) := by decide +kernel
theorem d_Mod_substitute_37 : decode prog_14_method_27_code 37 = .ok (.getfield 53, 3) := by decide +kernel
theorem d_Mod_substitute_40 : decode prog_14_method_27_code 40 = .ok (.iload_n 1, 1) := by decide +kernel
theorem d_Mod_substitute_41 : decode prog_14_method_27_code 41 = .ok (.iconst 0, 1) := by decide +kernel
theorem d_Mod_substitute_42 : decode prog_14_method_27_code 42 = .ok (.iastore, 1) := by decide +kernel
theorem d_Mod_substitute_43 : decode prog_14_method_27_code 43 = .ok (.aload_n 0, 1) := by decide +kernel
theorem d_Mod_substitute_44 : decode prog_14_method_27_code 44 = .ok (.getfield 63, 3) := by decide +kernel
theorem d_Mod_substitute_47 : decode prog_14_method_27_code 47 = .ok (.iload_n 1, 1) := by decide +kernel
theorem d_Mod_substitute_48 : decode prog_14_method_27_code 48 = .ok (.iconst 0, 1) := by decide +kernel
theorem d_Mod_substitute_49 : decode prog_14_method_27_code 49 = .ok (.bastore, 1) := by decide +kernel
theorem d_Mod_substitute_50 : decode prog_14_method_27_code 50 = .ok (.aload_n 0, 1) := by decide +kernel
theorem d_Mod_substitute_51 : decode prog_14_method_27_code 51 = .ok (.getfield 66, 3) := by decide +kernel
theorem d_Mod_substitute_54 : decode prog_14_method_27_code 54 = .ok (.iload_n 1, 1) := by decide +kernel
theorem d_Mod_substitute_55 : decode prog_14_method_27_code 55 = .ok (.iconst 0, 1) := by decide +kernel
theorem d_Mod_substitute_56 : decode prog_14_method_27_code 56 = .ok (.bastore, 1) := by decide +kernel
theorem d_Mod_substitute_57 : decode prog_14_method_27_code 57 = .ok (.aload_n 0, 1) := by decide +kernel
theorem d_Mod_substitute_58 : decode prog_14_method_27_code 58 = .ok (.getfield 179, 3) := by decide +kernel
theorem d_Mod_substitute_61 : decode prog_14_method_27_code 61 = .ok (.ifCond .ne 7, 3) := by decide +kernel
theorem d_Mod_substitute_64 : decode prog_14_method_27_code 64 = .ok (.iconst 1, 1) := by decide +kernel
theorem d_Mod_substitute_65 : decode prog_14_method_27_code 65 = .ok (.goto 4, 3) := by decide +kernel
theorem d_Mod_substitute_68 : decode prog_14_method_27_code 68 = .ok (.iconst 0, 1) := by decide +kernel
theorem d_Mod_substitute_69 : decode prog_14_method_27_code 69 = .ok (.istore_n 2, 1) := by decide +kernel
theorem d_Mod_substitute_70 : decode prog_14_method_27_code 70 = .ok (.iload_n 2, 1) := by decide +kernel
theorem d_Mod_substitute_71 : decode prog_14_method_27_code 71 = .ok (.ifCond .eq 151, 3) := by decide +kernel
theorem d_Mod_substitute_74 : decode prog_14_method_27_code 74 = .ok (.aload_n 0, 1) := by decide +kernel
theorem d_Mod_substitute_75 : decode prog_14_method_27_code 75 = .ok (.invokevirtual 183, 3) := by decide +kernel
theorem d_Mod_substitute_78 : decode prog_14_method_27_code 78 = .ok (.istore_n 3, 1) := by decide +kernel
theorem d_Mod_substitute_79 : decode prog_14_method_27_code 79 = .ok (.iload_n 3, 1) := by decide +kernel
theorem d_Mod_substitute_80 : decode prog_14_method_27_code 80 = .ok (.bipush 103, 2) := by decide +kernel
theorem d_Mod_substitute_82 : decode prog_14_method_27_code 82 = .ok (.if_icmp .eq 20, 3) := by decide +kernel
theorem d_Mod_substitute_85 : decode prog_14_method_27_code 85 = .ok (.iload_n 3, 1) := by decide +kernel
theorem d_Mod_substitute_86 : decode prog_14_method_27_code 86 = .ok (.bipush 112, 2) := by decide +kernel
theorem d_Mod_substitute_88 : decode prog_14_method_27_code 88 = .ok (.if_icmp .eq 14, 3) := by decide +kernel
theorem d_Mod_substitute_91 : decode prog_14_method_27_code 91 = .ok (.iload_n 3, 1) := by decide +kernel
theorem d_Mod_substitute_92 : decode prog_14_method_27_code 92 = .ok (.bipush 49, 2) := by decide +kernel
theorem d_Mod_substitute_94 : decode prog_14_method_27_code 94 = .ok (.bipush 57, 2) := by decide +kernel
theorem d_Mod_substitute_96 : decode prog_14_method_27_code 96 = .ok (.invokestatic 154, 3) := by decide +kernel
theorem d_Mod_substitute_99 : decode prog_14_method_27_code 99 = .ok (.ifCond .eq 7, 3) := by decide +kernel
theorem d_Mod_substitute_102 : decode prog_14_method_27_code 102 = .ok (.iconst 1, 1) := by decide +kernel
theorem d_Mod_substitute_103 : decode prog_14_method_27_code 103 = .ok (.goto 4, 3) := by decide +kernel
theorem d_Mod_substitute_106 : decode prog_14_method_27_code 106 = .ok (.iconst 0, 1) := by decide +kernel
theorem d_Mod_substitute_107 : decode prog_14_method_27_code 107 = .ok (.istore_n 2, 1) := by decide +kernel
theorem d_Mod_substitute_108 : decode prog_14_method_27_code 108 = .ok (.iload_n 2, 1) := by decide +kernel
theorem d_Mod_substitute_109 : decode prog_14_method_27_code 109 = .ok (.ifCond .ne 4, 3) := by decide +kernel
theorem d_Mod_substitute_112 : decode prog_14_method_27_code 112 = .ok (.return_, 1) := by decide +kernel
theorem d_Mod_substitute_113 : decode prog_14_method_27_code 113 = .ok (.iload_n 3, 1) := by decide +kernel
theorem d_Mod_substitute_114 : decode prog_14_method_27_code 114 = .ok (.bipush 103, 2) := by decide +kernel
theorem d_Mod_substitute_116 : decode prog_14_method_27_code 116 = .ok (.if_icmp .ne 15, 3) := by decide +kernel
theorem d_Mod_substitute_119 : decode prog_14_method_27_code 119 = .ok (.aload_n 0, 1) := by decide +kernel
theorem d_Mod_substitute_120 : decode prog_14_method_27_code 120 = .ok (.getfield 63, 3) := by decide +kernel
theorem d_Mod_substitute_123 : decode prog_14_method_27_code 123 = .ok (.iload_n 1, 1) := by decide +kernel
theorem d_Mod_substitute_124 : decode prog_14_method_27_code 124 = .ok (.baload, 1) := by decide +kernel
theorem d_Mod_substitute_125 : decode prog_14_method_27_code 125 = .ok (.ifCond .eq 42, 3) := by decide +kernel
theorem d_Mod_substitute_128 : decode prog_14_method_27_code 128 = .ok (.goto 30, 3) := by decide +kernel
theorem d_Mod_substitute_131 : decode prog_14_method_27_code 131 = .ok (.iload_n 3, 1) := by decide +kernel
theorem d_Mod_substitute_132 : decode prog_14_method_27_code 132 = .ok (.bipush 112, 2) := by decide +kernel
theorem d_Mod_substitute_134 : decode prog_14_method_27_code 134 = .ok (.if_icmp .ne 15, 3) := by decide +kernel
theorem d_Mod_substitute_137 : decode prog_14_method_27_code 137 = .ok (.aload_n 0, 1) := by decide +kernel
theorem d_Mod_substitute_138 : decode prog_14_method_27_code 138 = .ok (.getfield 66, 3) := by decide +kernel
theorem d_Mod_substitute_141 : decode prog_14_method_27_code 141 = .ok (.iload_n 1, 1) := by decide +kernel
theorem d_Mod_substitute_142 : decode prog_14_method_27_code 142 = .ok (.baload, 1) := by decide +kernel
theorem d_Mod_substitute_143 : decode prog_14_method_27_code 143 = .ok (.ifCond .eq 24, 3) := by decide +kernel
theorem d_Mod_substitute_146 : decode prog_14_method_27_code 146 = .ok (.goto 12, 3) := by decide +kernel
theorem d_Mod_substitute_149 : decode prog_14_method_27_code 149 = .ok (.aload_n 0, 1) := by decide +kernel
theorem d_Mod_substitute_150 : decode prog_14_method_27_code 150 = .ok (.getfield 53, 3) := by decide +kernel
theorem d_Mod_substitute_153 : decode prog_14_method_27_code 153 = .ok (.iload_n 1, 1) := by decide +kernel
theorem d_Mod_substitute_154 : decode prog_14_method_27_code 154 = .ok (.iaload, 1) := by decide +kernel
theorem d_Mod_substitute_155 : decode prog_14_method_27_code 155 = .ok (.ifCond .le 12, 3) := by decide +kernel
theorem d_Mod_substitute_158 : decode prog_14_method_27_code 158 = .ok (.aload_n 0, 1) := by decide +kernel
theorem d_Mod_substitute_159 : decode prog_14_method_27_code 159 = .ok (.aload_n 0, 1) := by decide +kernel
theorem d_Mod_substitute_160 : decode prog_14_method_27_code 160 = .ok (.getfield 176, 3) := by decide +kernel
theorem d_Mod_substitute_163 : decode prog_14_method_27_code 163 = .ok (.invokevirtual 187, 3) := by decide +kernel
theorem d_Mod_substitute_166 : decode prog_14_method_27_code 166 = .ok (.return_, 1) := by decide +kernel
theorem d_Mod_substitute_167 : decode prog_14_method_27_code 167 = .ok (.iload_n 3, 1) := by decide +kernel
theorem d_Mod_substitute_168 : decode prog_14_method_27_code 168 = .ok (.bipush 103, 2) := by decide +kernel
theorem d_Mod_substitute_170 : decode prog_14_method_27_code 170 = .ok (.if_icmp .ne 13, 3) := by decide +kernel
theorem d_Mod_substitute_173 : decode prog_14_method_27_code 173 = .ok (.aload_n 0, 1) := by decide +kernel
theorem d_Mod_substitute_174 : decode prog_14_method_27_code 174 = .ok (.getfield 63, 3) := by decide +kernel
theorem d_Mod_substitute_177 : decode prog_14_method_27_code 177 = .ok (.iload_n 1, 1) := by decide +kernel
theorem d_Mod_substitute_178 : decode prog_14_method_27_code 178 = .ok (.iconst 1, 1) := by decide +kernel
theorem d_Mod_substitute_179 : decode prog_14_method_27_code 179 = .ok (.bastore, 1) := by decide +kernel
theorem d_Mod_substitute_180 : decode prog_14_method_27_code 180 = .ok (.goto 29, 3) := by decide +kernel
theorem d_Mod_substitute_183 : decode prog_14_method_27_code 183 = .ok (.iload_n 3, 1) := by decide +kernel
theorem d_Mod_substitute_184 : decode prog_14_method_27_code 184 = .ok (.bipush 112, 2) := by decide +kernel
theorem d_Mod_substitute_186 : decode prog_14_method_27_code 186 = .ok (.if_icmp .ne 13, 3) := by decide +kernel
theorem d_Mod_substitute_189 : decode prog_14_method_27_code 189 = .ok (.aload_n 0, 1) := by decide +kernel
theorem d_Mod_substitute_190 : decode prog_14_method_27_code 190 = .ok (.getfield 66, 3) := by decide +kernel
theorem d_Mod_substitute_193 : decode prog_14_method_27_code 193 = .ok (.iload_n 1, 1) := by decide +kernel
theorem d_Mod_substitute_194 : decode prog_14_method_27_code 194 = .ok (.iconst 1, 1) := by decide +kernel
theorem d_Mod_substitute_195 : decode prog_14_method_27_code 195 = .ok (.bastore, 1) := by decide +kernel
theorem d_Mod_substitute_196 : decode prog_14_method_27_code 196 = .ok (.goto 13, 3) := by decide +kernel
theorem d_Mod_substitute_199 : decode prog_14_method_27_code 199 = .ok (.aload_n 0, 1) := by decide +kernel
theorem d_Mod_substitute_200 : decode prog_14_method_27_code 200 = .ok (.getfield 53, 3) := by decide +kernel
theorem d_Mod_substitute_203 : decode prog_14_method_27_code 203 = .ok (.iload_n 1, 1) := by decide +kernel
theorem d_Mod_substitute_204 : decode prog_14_method_27_code 204 = .ok (.iload_n 3, 1) := by decide +kernel
theorem d_Mod_substitute_205 : decode prog_14_method_27_code 205 = .ok (.bipush 48, 2) := by decide +kernel
theorem d_Mod_substitute_207 : decode prog_14_method_27_code 207 = .ok (.isub, 1) := by decide +kernel
theorem d_Mod_substitute_208 : decode prog_14_method_27_code 208 = .ok (.iastore, 1) := by decide +kernel
theorem d_Mod_substitute_209 : decode prog_14_method_27_code 209 = .ok (.aload_n 0, 1) := by decide +kernel
theorem d_Mod_substitute_210 : decode prog_14_method_27_code 210 = .ok (.dup, 1) := by decide +kernel
theorem d_Mod_substitute_211 : decode prog_14_method_27_code 211 = .ok (.getfield 176, 3) := by decide +kernel
theorem d_Mod_substitute_214 : decode prog_14_method_27_code 214 = .ok (.iconst 1, 1) := by decide +kernel
theorem d_Mod_substitute_215 : decode prog_14_method_27_code 215 = .ok (.iadd, 1) := by decide +kernel
theorem d_Mod_substitute_216 : decode prog_14_method_27_code 216 = .ok (.putfield 176, 3) := by decide +kernel
theorem d_Mod_substitute_219 : decode prog_14_method_27_code 219 = .ok (.goto (-149), 3) := by decide +kernel
theorem d_Mod_substitute_222 : decode prog_14_method_27_code 222 = .ok (.return_, 1) := by decide +kernel
theorem d_Mod_exchange_0 : decode prog_14_method_28_code 0 = .ok (.aload_n 0, 1) := by decide +kernel
theorem d_Mod_exchange_1 : decode prog_14_method_28_code 1 = .ok (.bipush 47, 2) := by decide +kernel
theorem d_Mod_exchange_3 : decode prog_14_method_28_code 3 = .ok (.invokevirtual 246, 3) := by decide +kernel
theorem d_Mod_exchange_6 : decode prog_14_method_28_code 6 = .ok (.aload_n 0, 1) := by decide +kernel
theorem d_Mod_exchange_7 : decode prog_14_method_28_code 7 = .ok (.getfield 41, 3) := by decide +kernel
theorem d_Mod_exchange_10 : decode prog_14_method_28_code 10 = .ok (.iload_n 1, 1) := by decide +kernel
theorem d_Mod_exchange_11 : decode prog_14_method_28_code 11 = .ok (.aload_n 0, 1) := by decide +kernel
theorem d_Mod_exchange_12 : decode prog_14_method_28_code 12 = .ok (.invokevirtual 240, 3) := by decide +kernel
theorem d_Mod_exchange_15 : decode prog_14_method_28_code 15 = .ok (.iastore, 1) := by decide +kernel
theorem d_Mod_exchange_16 : decode prog_14_method_28_code 16 = .ok (.aload_n 0, 1) := by decide +kernel
theorem d_Mod_exchange_17 : decode prog_14_method_28_code 17 = .ok (.getfield 179, 3) := by decide +kernel
theorem d_Mod_exchange_20 : decode prog_14_method_28_code 20 = .ok (.ifCond .ne 118, 3) := by decide +kernel
theorem d_Mod_exchange_23 : decode prog_14_method_28_code 23 = .ok (.aload_n 0, 1) := by decide +kernel
theorem d_Mod_exchange_24 : decode prog_14_method_28_code 24 = .ok (.invokevirtual 183, 3) := by decide +kernel
theorem d_Mod_exchange_27 : decode prog_14_method_28_code 27 = .ok (.bipush 47, 2) := by decide +kernel
theorem d_Mod_exchange_29 : decode prog_14_method_28_code 29 = .ok (.if_icmp .eq 109, 3) := by decide +kernel
theorem d_Mod_exchange_32 : decode prog_14_method_28_code 32 = .ok (.aload_n 0, 1) := by decide +kernel
theorem d_Mod_exchange_33 : decode prog_14_method_28_code 33 = .ok (.invokevirtual 183, 3) := by decide +kernel
theorem d_Mod_exchange_36 : decode prog_14_method_28_code 36 = .ok (.istore_n 2, 1) := by decide +kernel
theorem d_Mod_exchange_37 : decode prog_14_method_28_code 37 = .ok (.iload_n 2, 1) := by decide +kernel
theorem d_Mod_exchange_38 : decode prog_14_method_28_code 38 = .ok (.iconst (-1), 1) := by decide +kernel
theorem d_Mod_exchange_39 : decode prog_14_method_28_code 39 = .ok (.if_icmp .eq 15, 3) := by decide +kernel
theorem d_Mod_exchange_42 : decode prog_14_method_28_code 42 = .ok (.iload_n 2, 1) := by decide +kernel
theorem d_Mod_exchange_43 : decode prog_14_method_28_code 43 = .ok (.bipush 10, 2) := by decide +kernel
theorem d_Mod_exchange_45 : decode prog_14_method_28_code 45 = .ok (.if_icmp .eq 9, 3) := by decide +kernel
theorem d_Mod_exchange_48 : decode prog_14_method_28_code 48 = .ok (.iload_n 2, 1) := by decide +kernel
theorem d_Mod_exchange_49 : decode prog_14_method_28_code 49 = .ok (.bipush 92, 2) := by decide +kernel
theorem d_Mod_exchange_51 : decode prog_14_method_28_code 51 = .ok (.if_icmp .ne 23, 3) := by decide +kernel
theorem d_Mod_exchange_54 : decode prog_14_method_28_code 54 = .ok (.aload_n 0, 1) := by decide +kernel
theorem d_Mod_exchange_55 : decode prog_14_method_28_code 55 = .ok (.iload_n 2, 1) := by decide +kernel
theorem d_Mod_exchange_56 : decode prog_14_method_28_code 56 = .ok (.iconst (-1), 1) := by decide +kernel
theorem d_Mod_exchange_57 : decode prog_14_method_28_code 57 = .ok (.if_icmp .ne 10, 3) := by decide +kernel
theorem d_Mod_exchange_60 : decode prog_14_method_28_code 60 = .ok (.aload_n 0, 1) := by decide +kernel
theorem d_Mod_exchange_61 : decode prog_14_method_28_code 61 = .ok (.getfield 166, 3) := by decide +kernel
theorem d_Mod_exchange_64 : decode prog_14_method_28_code 64 = .ok (.goto 7, 3) := by decide +kernel
theorem d_Mod_exchange_67 : decode prog_14_method_28_code 67 = .ok (.aload_n 0, 1) := by decide +kernel
theorem d_Mod_exchange_68 : decode prog_14_method_28_code 68 = .ok (.getfield 176, 3) := by decide +kernel
theorem d_Mod_exchange_71 : decode prog_14_method_28_code 71 = .ok (.invokevirtual 187, 3) := by decide +kernel
theorem d_Mod_exchange_74 : decode prog_14_method_28_code 74 = .ok (.aload_n 0, 1) := by decide +kernel
theorem d_Mod_exchange_75 : decode prog_14_method_28_code 75 = .ok (.getfield 41, 3) := by decide +kernel
theorem d_Mod_exchange_78 : decode prog_14_method_28_code 78 = .ok (.iload_n 1, 1) := by decide +kernel
theorem d_Mod_exchange_79 : decode prog_14_method_28_code 79 = .ok (.iaload, 1) := by decide +kernel
theorem d_Mod_exchange_80 : decode prog_14_method_28_code 80 = .ok (.istore_n 3, 1) := by decide +kernel
theorem d_Mod_exchange_81 : decode prog_14_method_28_code 81 = .ok (.iload_n 3, 1) := by decide +kernel
theorem d_Mod_exchange_82 : decode prog_14_method_28_code 82 = .ok (.aload_n 0, 1) := by decide +kernel
theorem d_Mod_exchange_83 : decode prog_14_method_28_code 83 = .ok (.invokevirtual 240, 3) := by decide +kernel
theorem d_Mod_exchange_86 : decode prog_14_method_28_code 86 = .ok (.if_icmp .ge 34, 3) := by decide +kernel
theorem d_Mod_exchange_89 : decode prog_14_method_28_code 89 = .ok (.aload_n 0, 1) := by decide +kernel
theorem d_Mod_exchange_90 : decode prog_14_method_28_code 90 = .ok (.getfield 179, 3) := by decide +kernel
theorem d_Mod_exchange_93 : decode prog_14_method_28_code 93 = .ok (.ifCond .ne 27, 3) := by decide +kernel
theorem d_Mod_exchange_96 : decode prog_14_method_28_code 96 = .ok (.aload_n 0, 1) := by decide +kernel
theorem d_Mod_exchange_97 : decode prog_14_method_28_code 97 = .ok (.getfield 96, 3) := by decide +kernel
theorem d_Mod_exchange_100 : decode prog_14_method_28_code 100 = .ok (.iload_n 3, 1) := by decide +kernel
theorem d_Mod_exchange_101 : decode prog_14_method_28_code 101 = .ok (.iaload, 1) := by decide +kernel
theorem d_Mod_exchange_102 : decode prog_14_method_28_code 102 = .ok (.iload_n 2, 1) := by decide +kernel
theorem d_Mod_exchange_103 : decode prog_14_method_28_code 103 = .ok (.if_icmp .ne 11, 3) := by decide +kernel
theorem d_Mod_exchange_106 : decode prog_14_method_28_code 106 = .ok (.aload_n 0, 1) := by decide +kernel
theorem d_Mod_exchange_107 : decode prog_14_method_28_code 107 = .ok (.aload_n 0, 1) := by decide +kernel
theorem d_Mod_exchange_108 : decode prog_14_method_28_code 108 = .ok (.getfield 176, 3) := by decide +kernel
theorem d_Mod_exchange_111 : decode prog_14_method_28_code 111 = .ok (.invokevirtual 187, 3) := by decide +kernel
theorem d_Mod_exchange_114 : decode prog_14_method_28_code 114 = .ok (.iinc 3 1, 3) := by decide +kernel
theorem d_Mod_exchange_117 : decode prog_14_method_28_code 117 = .ok (.goto (-36), 3) := by decide +kernel
theorem d_Mod_exchange_120 : decode prog_14_method_28_code 120 = .ok (.aload_n 0, 1) := by decide +kernel
theorem d_Mod_exchange_121 : decode prog_14_method_28_code 121 = .ok (.iload_n 2, 1) := by decide +kernel
theorem d_Mod_exchange_122 : decode prog_14_method_28_code 122 = .ok (.invokevirtual 243, 3) := by decide +kernel
theorem d_Mod_exchange_125 : decode prog_14_method_28_code 125 = .ok (.aload_n 0, 1) := by decide +kernel
theorem d_Mod_exchange_126 : decode prog_14_method_28_code 126 = .ok (.dup, 1) := by decide +kernel
theorem d_Mod_exchange_127 : decode prog_14_method_28_code 127 = .ok (.getfield 176, 3) := by decide +kernel
theorem d_Mod_exchange_130 : decode prog_14_method_28_code 130 = .ok (.iconst 1, 1) := by decide +kernel
theorem d_Mod_exchange_131 : decode prog_14_method_28_code 131 = .ok (.iadd, 1) := by decide +kernel
theorem d_Mod_exchange_132 : decode prog_14_method_28_code 132 = .ok (.putfield 176, 3) := by decide +kernel
theorem d_Mod_exchange_135 : decode prog_14_method_28_code 135 = .ok (.goto (-119), 3) := by decide +kernel
theorem d_Mod_exchange_138 : decode prog_14_method_28_code 138 = .ok (.aload_n 0, 1) := by decide +kernel
theorem d_Mod_exchange_139 : decode prog_14_method_28_code 139 = .ok (.dup, 1) := by decide +kernel
theorem d_Mod_exchange_140 : decode prog_14_method_28_code 140 = .ok (.getfield 176, 3) := by decide +kernel
theorem d_Mod_exchange_143 : decode prog_14_method_28_code 143 = .ok (.iconst 1, 1) := by decide +kernel
theorem d_Mod_exchange_144 : decode prog_14_method_28_code 144 = .ok (.iadd, 1) := by decide +kernel
theorem d_Mod_exchange_145 : decode prog_14_method_28_code 145 = .ok (.putfield 176, 3) := by decide +kernel
theorem d_Mod_exchange_148 : decode prog_14_method_28_code 148 = .ok (.aload_n 0, 1) := by decide +kernel
theorem d_Mod_exchange_149 : decode prog_14_method_28_code 149 = .ok (.getfield 47, 3) := by decide +kernel
theorem d_Mod_exchange_152 : decode prog_14_method_28_code 152 = .ok (.iload_n 1, 1) := by decide +kernel
theorem d_Mod_exchange_153 : decode prog_14_method_28_code 153 = .ok (.aload_n 0, 1) := by decide +kernel
theorem d_Mod_exchange_154 : decode prog_14_method_28_code 154 = .ok (.invokevirtual 240, 3) := by decide +kernel
theorem d_Mod_exchange_157 : decode prog_14_method_28_code 157 = .ok (.iastore, 1) := by decide +kernel
theorem d_Mod_exchange_158 : decode prog_14_method_28_code 158 = .ok (.aload_n 0, 1) := by decide +kernel
theorem d_Mod_exchange_159 : decode prog_14_method_28_code 159 = .ok (.getfield 47, 3) := by decide +kernel
theorem d_Mod_exchange_162 : decode prog_14_method_28_code 162 = .ok (.iload_n 1, 1) := by decide +kernel
theorem d_Mod_exchange_163 : decode prog_14_method_28_code 163 = .ok (.iaload, 1) := by decide +kernel
theorem d_Mod_exchange_164 : decode prog_14_method_28_code 164 = .ok (.aload_n 0, 1) := by decide +kernel
theorem d_Mod_exchange_165 : decode prog_14_method_28_code 165 = .ok (.getfield 41, 3) := by decide +kernel
theorem d_Mod_exchange_168 : decode prog_14_method_28_code 168 = .ok (.iload_n 1, 1) := by decide +kernel
theorem d_Mod_exchange_169 : decode prog_14_method_28_code 169 = .ok (.iaload, 1) := by decide +kernel
theorem d_Mod_exchange_170 : decode prog_14_method_28_code 170 = .ok (.isub, 1) := by decide +kernel
theorem d_Mod_exchange_171 : decode prog_14_method_28_code 171 = .ok (.istore_n 2, 1) := by decide +kernel
theorem d_Mod_exchange_172 : decode prog_14_method_28_code 172 = .ok (.iconst 0, 1) := by decide +kernel
theorem d_Mod_exchange_173 : decode prog_14_method_28_code 173 = .ok (.istore_n 3, 1) := by decide +kernel
theorem d_Mod_exchange_174 : decode prog_14_method_28_code 174 = .ok (.aload_n 0, 1) := by decide +kernel
theorem d_Mod_exchange_175 : decode prog_14_method_28_code 175 = .ok (.getfield 179, 3) := by decide +kernel
theorem d_Mod_exchange_178 : decode prog_14_method_28_code 178 = .ok (.ifCond .ne 96, 3) := by decide +kernel
theorem d_Mod_exchange_181 : decode prog_14_method_28_code 181 = .ok (.iload_n 3, 1) := by decide +kernel
theorem d_Mod_exchange_182 : decode prog_14_method_28_code 182 = .ok (.iload_n 2, 1) := by decide +kernel
theorem d_Mod_exchange_183 : decode prog_14_method_28_code 183 = .ok (.if_icmp .lt 12, 3) := by decide +kernel
theorem d_Mod_exchange_186 : decode prog_14_method_28_code 186 = .ok (.aload_n 0, 1) := by decide +kernel
theorem d_Mod_exchange_187 : decode prog_14_method_28_code 187 = .ok (.invokevirtual 183, 3) := by decide +kernel
theorem d_Mod_exchange_190 : decode prog_14_method_28_code 190 = .ok (.bipush 47, 2) := by decide +kernel
theorem d_Mod_exchange_192 : decode prog_14_method_28_code 192 = .ok (.if_icmp .eq 82, 3) := by decide +kernel
theorem d_Mod_exchange_195 : decode prog_14_method_28_code 195 = .ok (.aload_n 0, 1) := by decide +kernel
theorem d_Mod_exchange_196 : decode prog_14_method_28_code 196 = .ok (.invokevirtual 183, 3) := by decide +kernel
theorem d_Mod_exchange_199 : decode prog_14_method_28_code 199 = .ok (.istore 4, 2) := by decide +kernel
theorem d_Mod_exchange_201 : decode prog_14_method_28_code 201 = .ok (.iload 4, 2) := by decide +kernel
theorem d_Mod_exchange_203 : decode prog_14_method_28_code 203 = .ok (.iconst (-1), 1) := by decide +kernel
theorem d_Mod_exchange_204 : decode prog_14_method_28_code 204 = .ok (.if_icmp .ne 14, 3) := by decide +kernel
theorem d_Mod_exchange_207 : decode prog_14_method_28_code 207 = .ok (.aload_n 0, 1) := by decide +kernel
theorem d_Mod_exchange_208 : decode prog_14_method_28_code 208 = .ok (.aload_n 0, 1) := by decide +kernel
theorem d_Mod_exchange_209 : decode prog_14_method_28_code 209 = .ok (.getfield 166, 3) := by decide +kernel
theorem d_Mod_exchange_212 : decode prog_14_method_28_code 212 = .ok (.invokevirtual 187, 3) := by decide +kernel
theorem d_Mod_exchange_215 : decode prog_14_method_28_code 215 = .ok (.goto 37, 3) := by decide +kernel
theorem d_Mod_exchange_218 : decode prog_14_method_28_code 218 = .ok (.iload 4, 2) := by decide +kernel
theorem d_Mod_exchange_220 : decode prog_14_method_28_code 220 = .ok (.bipush 10, 2) := by decide +kernel
theorem d_Mod_exchange_222 : decode prog_14_method_28_code 222 = .ok (.if_icmp .eq 22, 3) := by decide +kernel
theorem d_Mod_exchange_225 : decode prog_14_method_28_code 225 = .ok (.iload 4, 2) := by decide +kernel
theorem d_Mod_exchange_227 : decode prog_14_method_28_code 227 = .ok (.bipush 92, 2) := by decide +kernel
theorem d_Mod_exchange_229 : decode prog_14_method_28_code 229 = .ok (.if_icmp .eq 15, 3) := by decide +kernel
theorem d_Mod_exchange_232 : decode prog_14_method_28_code 232 = .ok (.iload 4, 2) := by decide +kernel
theorem d_Mod_exchange_234 : decode prog_14_method_28_code 234 = .ok (.bipush 47, 2) := by decide +kernel
theorem d_Mod_exchange_236 : decode prog_14_method_28_code 236 = .ok (.if_icmp .eq 8, 3) := by decide +kernel
theorem d_Mod_exchange_239 : decode prog_14_method_28_code 239 = .ok (.iload_n 3, 1) := by decide +kernel
theorem d_Mod_exchange_240 : decode prog_14_method_28_code 240 = .ok (.iload_n 2, 1) := by decide +kernel
theorem d_Mod_exchange_241 : decode prog_14_method_28_code 241 = .ok (.if_icmp .ne 11, 3) := by decide +kernel
theorem d_Mod_exchange_244 : decode prog_14_method_28_code 244 = .ok (.aload_n 0, 1) := by decide +kernel
theorem d_Mod_exchange_245 : decode prog_14_method_28_code 245 = .ok (.aload_n 0, 1) := by decide +kernel
theorem d_Mod_exchange_246 : decode prog_14_method_28_code 246 = .ok (.getfield 176, 3) := by decide +kernel
theorem d_Mod_exchange_249 : decode prog_14_method_28_code 249 = .ok (.invokevirtual 187, 3) := by decide +kernel
theorem d_Mod_exchange_252 : decode prog_14_method_28_code 252 = .ok (.aload_n 0, 1) := by decide +kernel
theorem d_Mod_exchange_253 : decode prog_14_method_28_code 253 = .ok (.iload 4, 2) := by decide +kernel
theorem d_Mod_exchange_255 : decode prog_14_method_28_code 255 = .ok (.invokevirtual 243, 3) := by decide +kernel
theorem d_Mod_exchange_258 : decode prog_14_method_28_code 258 = .ok (.iinc 3 1, 3) := by decide +kernel
theorem d_Mod_exchange_261 : decode prog_14_method_28_code 261 = .ok (.aload_n 0, 1) := by decide +kernel
theorem d_Mod_exchange_262 : decode prog_14_method_28_code 262 = .ok (.dup, 1) := by decide +kernel
theorem d_Mod_exchange_263 : decode prog_14_method_28_code 263 = .ok (.getfield 176, 3) := by decide +kernel
theorem d_Mod_exchange_266 : decode prog_14_method_28_code 266 = .ok (.iconst 1, 1) := by decide +kernel
theorem d_Mod_exchange_267 : decode prog_14_method_28_code 267 = .ok (.iadd, 1) := by decide +kernel
theorem d_Mod_exchange_268 : decode prog_14_method_28_code 268 = .ok (.putfield 176, 3) := by decide +kernel
theorem d_Mod_exchange_271 : decode prog_14_method_28_code 271 = .ok (.goto (-97), 3) := by decide +kernel
theorem d_Mod_exchange_274 : decode prog_14_method_28_code 274 = .ok (.aload_n 0, 1) := by decide +kernel
theorem d_Mod_exchange_275 : decode prog_14_method_28_code 275 = .ok (.dup, 1) := by decide +kernel
theorem d_Mod_exchange_276 : decode prog_14_method_28_code 276 = .ok (.getfield 176, 3) := by decide +kernel
theorem d_Mod_exchange_279 : decode prog_14_method_28_code 279 = .ok (.iconst 1, 1) := by decide +kernel
theorem d_Mod_exchange_280 : decode prog_14_method_28_code 280 = .ok (.iadd, 1) := by decide +kernel
theorem d_Mod_exchange_281 : decode prog_14_method_28_code 281 = .ok (.putfield 176, 3) := by decide +kernel
theorem d_Mod_exchange_284 : decode prog_14_method_28_code 284 = .ok (.aload_n 0, 1) := by decide +kernel
theorem d_Mod_exchange_285 : decode prog_14_method_28_code 285 = .ok (.getfield 44, 3) := by decide +kernel
theorem d_Mod_exchange_288 : decode prog_14_method_28_code 288 = .ok (.iload_n 1, 1) := by decide +kernel
theorem d_Mod_exchange_289 : decode prog_14_method_28_code 289 = .ok (.aload_n 0, 1) := by decide +kernel
theorem d_Mod_exchange_290 : decode prog_14_method_28_code 290 = .ok (.invokevirtual 240, 3) := by decide +kernel
theorem d_Mod_exchange_293 : decode prog_14_method_28_code 293 = .ok (.iastore, 1) := by decide +kernel
theorem d_Mod_exchange_294 : decode prog_14_method_28_code 294 = .ok (.return_, 1) := by decide +kernel
theorem d_Mod_readText_0 : decode prog_14_method_29_code 0 = .ok (.aload_n 0, 1) := by decide +kernel
theorem d_Mod_readText_1 : decode prog_14_method_29_code 1 = .ok (.invokevirtual 183, 3) := by decide +kernel
theorem d_Mod_readText_4 : decode prog_14_method_29_code 4 = .ok (.iconst (-1), 1) := by decide +kernel
theorem d_Mod_readText_5 : decode prog_14_method_29_code 5 = .ok (.if_icmp .ne 11, 3) := by decide +kernel
theorem d_Mod_readText_8 : decode prog_14_method_29_code 8 = .ok (.aload_n 0, 1) := by decide +kernel
theorem d_Mod_readText_9 : decode prog_14_method_29_code 9 = .ok (.aload_n 0, 1) := by decide +kernel
theorem d_Mod_readText_10 : decode prog_14_method_29_code 10 = .ok (.getfield 166, 3) := by decide +kernel
theorem d_Mod_readText_13 : decode prog_14_method_29_code 13 = .ok (.invokevirtual 187, 3) := by decide +kernel
theorem d_Mod_readText_16 : decode prog_14_method_29_code 16 = .ok (.aload_n 0, 1) := by decide +kernel
theorem d_Mod_readText_17 : decode prog_14_method_29_code 17 = .ok (.bipush 32, 2) := by decide +kernel
theorem d_Mod_readText_19 : decode prog_14_method_29_code 19 = .ok (.invokevirtual 246, 3) := by decide +kernel
theorem d_Mod_readText_22 : decode prog_14_method_29_code 22 = .ok (.aload_n 0, 1) := by decide +kernel
theorem d_Mod_readText_23 : decode prog_14_method_29_code 23 = .ok (.getfield 41, 3) := by decide +kernel
theorem d_Mod_readText_26 : decode prog_14_method_29_code 26 = .ok (.iload_n 1, 1) := by decide +kernel
theorem d_Mod_readText_27 : decode prog_14_method_29_code 27 = .ok (.aload_n 0, 1) := by decide +kernel
theorem d_Mod_readText_28 : decode prog_14_method_29_code 28 = .ok (.invokevirtual 240, 3) := by decide +kernel
theorem d_Mod_readText_31 : decode prog_14_method_29_code 31 = .ok (.iastore, 1) := by decide +kernel
theorem d_Mod_readText_32 : decode prog_14_method_29_code 32 = .ok (.aload_n 0, 1) := by decide +kernel
theorem d_Mod_readText_33 : decode prog_14_method_29_code 33 = .ok (.getfield 179, 3) := by decide +kernel
theorem d_Mod_readText_36 : decode prog_14_method_29_code 36 = .ok (.ifCond .ne 41, 3) := by decide +kernel
theorem d_Mod_readText_39 : decode prog_14_method_29_code 39 = .ok (.aload_n 0, 1) := by decide +kernel
theorem d_Mod_readText_40 : decode prog_14_method_29_code 40 = .ok (.invokevirtual 183, 3) := by decide +kernel
theorem d_Mod_readText_43 : decode prog_14_method_29_code 43 = .ok (.iconst (-1), 1) := by decide +kernel
theorem d_Mod_readText_44 : decode prog_14_method_29_code 44 = .ok (.if_icmp .eq 33, 3) := by decide +kernel
theorem d_Mod_readText_47 : decode prog_14_method_29_code 47 = .ok (.aload_n 0, 1) := by decide +kernel
theorem d_Mod_readText_48 : decode prog_14_method_29_code 48 = .ok (.invokevirtual 183, 3) := by decide +kernel
theorem d_Mod_readText_51 : decode prog_14_method_29_code 51 = .ok (.bipush 10, 2) := by decide +kernel
theorem d_Mod_readText_53 : decode prog_14_method_29_code 53 = .ok (.if_icmp .eq 24, 3) := by decide +kernel
theorem d_Mod_readText_56 : decode prog_14_method_29_code 56 = .ok (.aload_n 0, 1) := by decide +kernel
theorem d_Mod_readText_57 : decode prog_14_method_29_code 57 = .ok (.aload_n 0, 1) := by decide +kernel
theorem d_Mod_readText_58 : decode prog_14_method_29_code 58 = .ok (.invokevirtual 183, 3) := by decide +kernel
theorem d_Mod_readText_61 : decode prog_14_method_29_code 61 = .ok (.invokevirtual 243, 3) := by decide +kernel
theorem d_Mod_readText_64 : decode prog_14_method_29_code 64 = .ok (.aload_n 0, 1) := by decide +kernel
theorem d_Mod_readText_65 : decode prog_14_method_29_code 65 = .ok (.dup, 1) := by decide +kernel
theorem d_Mod_readText_66 : decode prog_14_method_29_code 66 = .ok (.getfield 176, 3) := by decide +kernel
theorem d_Mod_readText_69 : decode prog_14_method_29_code 69 = .ok (.iconst 1, 1) := by decide +kernel
theorem d_Mod_readText_70 : decode prog_14_method_29_code 70 = .ok (.iadd, 1) := by decide +kernel
theorem d_Mod_readText_71 : decode prog_14_method_29_code 71 = .ok (.putfield 176, 3) := by decide +kernel
theorem d_Mod_readText_74 : decode prog_14_method_29_code 74 = .ok (.goto (-42), 3) := by decide +kernel
theorem d_Mod_readText_77 : decode prog_14_method_29_code 77 = .ok (.aload_n 0, 1) := by decide +kernel
theorem d_Mod_readText_78 : decode prog_14_method_29_code 78 = .ok (.getfield 44, 3) := by decide +kernel
theorem d_Mod_readText_81 : decode prog_14_method_29_code 81 = .ok (.iload_n 1, 1) := by decide +kernel
theorem d_Mod_readText_82 : decode prog_14_method_29_code 82 = .ok (.aload_n 0, 1) := by decide +kernel
theorem d_Mod_readText_83 : decode prog_14_method_29_code 83 = .ok (.invokevirtual 240, 3) := by decide +kernel
theorem d_Mod_readText_86 : decode prog_14_method_29_code 86 = .ok (.iastore, 1) := by decide +kernel
theorem d_Mod_readText_87 : decode prog_14_method_29_code 87 = .ok (.return_, 1) := by decide +kernel
theorem d_Mod_isPlain_0 : decode prog_14_method_30_code 0 = .ok (.iload_n 0, 1) := by decide +kernel
theorem d_Mod_isPlain_1 : decode prog_14_method_30_code 1 = .ok (.bipush 100, 2) := by decide +kernel
theorem d_Mod_isPlain_3 : decode prog_14_method_30_code 3 = .ok (.if_icmp .eq 75, 3) := by decide +kernel
theorem d_Mod_isPlain_6 : decode prog_14_method_30_code 6 = .ok (.iload_n 0, 1) := by decide +kernel
theorem d_Mod_isPlain_7 : decode prog_14_method_30_code 7 = .ok (.bipush 68, 2) := by decide +kernel
theorem d_Mod_isPlain_9 : decode prog_14_method_30_code 9 = .ok (.if_icmp .eq 69, 3) := by decide +kernel
theorem d_Mod_isPlain_12 : decode prog_14_method_30_code 12 = .ok (.iload_n 0, 1) := by decide +kernel
theorem d_Mod_isPlain_13 : decode prog_14_method_30_code 13 = .ok (.bipush 112, 2) := by decide +kernel
theorem d_Mod_isPlain_15 : decode prog_14_method_30_code 15 = .ok (.if_icmp .eq 63, 3) := by decide +kernel
theorem d_Mod_isPlain_18 : decode prog_14_method_30_code 18 = .ok (.iload_n 0, 1) := by decide +kernel
theorem d_Mod_isPlain_19 : decode prog_14_method_30_code 19 = .ok (.bipush 80, 2) := by decide +kernel
theorem d_Mod_isPlain_21 : decode prog_14_method_30_code 21 = .ok (.if_icmp .eq 57, 3) := by decide +kernel
theorem d_Mod_isPlain_24 : decode prog_14_method_30_code 24 = .ok (.iload_n 0, 1) := by decide +kernel
theorem d_Mod_isPlain_25 : decode prog_14_method_30_code 25 = .ok (.bipush 110, 2) := by decide +kernel
theorem d_Mod_isPlain_27 : decode prog_14_method_30_code 27 = .ok (.if_icmp .eq 51, 3) := by decide +kernel
theorem d_Mod_isPlain_30 : decode prog_14_method_30_code 30 = .ok (.iload_n 0, 1) := by decide +kernel
theorem d_Mod_isPlain_31 : decode prog_14_method_30_code 31 = .ok (.bipush 78, 2) := by decide +kernel
theorem d_Mod_isPlain_33 : decode prog_14_method_30_code 33 = .ok (.if_icmp .eq 45, 3) := by decide +kernel
theorem d_Mod_isPlain_36 : decode prog_14_method_30_code 36 = .ok (.iload_n 0, 1) := by decide +kernel
theorem d_Mod_isPlain_37 : decode prog_14_method_30_code 37 = .ok (.bipush 104, 2) := by decide +kernel
theorem d_Mod_isPlain_39 : decode prog_14_method_30_code 39 = .ok (.if_icmp .eq 39, 3) := by decide +kernel
theorem d_Mod_isPlain_42 : decode prog_14_method_30_code 42 = .ok (.iload_n 0, 1) := by decide +kernel
theorem d_Mod_isPlain_43 : decode prog_14_method_30_code 43 = .ok (.bipush 72, 2) := by decide +kernel
theorem d_Mod_isPlain_45 : decode prog_14_method_30_code 45 = .ok (.if_icmp .eq 33, 3) := by decide +kernel
theorem d_Mod_isPlain_48 : decode prog_14_method_30_code 48 = .ok (.iload_n 0, 1) := by decide +kernel
theorem d_Mod_isPlain_49 : decode prog_14_method_30_code 49 = .ok (.bipush 103, 2) := by decide +kernel
theorem d_Mod_isPlain_51 : decode prog_14_method_30_code 51 = .ok (.if_icmp .eq 27, 3) := by decide +kernel
theorem d_Mod_isPlain_54 : decode prog_14_method_30_code 54 = .ok (.iload_n 0, 1) := by decide +kernel
theorem d_Mod_isPlain_55 : decode prog_14_method_30_code 55 = .ok (.bipush 71, 2) := by decide +kernel
theorem d_Mod_isPlain_57 : decode prog_14_method_30_code 57 = .ok (.if_icmp .eq 21, 3) := by decide +kernel
theorem d_Mod_isPlain_60 : decode prog_14_method_30_code 60 = .ok (.iload_n 0, 1) := by decide +kernel
theorem d_Mod_isPlain_61 : decode prog_14_method_30_code 61 = .ok (.bipush 120, 2) := by decide +kernel
theorem d_Mod_isPlain_63 : decode prog_14_method_30_code 63 = .ok (.if_icmp .eq 15, 3) := by decide +kernel
theorem d_Mod_isPlain_66 : decode prog_14_method_30_code 66 = .ok (.iload_n 0, 1) := by decide +kernel
theorem d_Mod_isPlain_67 : decode prog_14_method_30_code 67 = .ok (.bipush 61, 2) := by decide +kernel
theorem d_Mod_isPlain_69 : decode prog_14_method_30_code 69 = .ok (.if_icmp .eq 9, 3) := by decide +kernel
theorem d_Mod_isPlain_72 : decode prog_14_method_30_code 72 = .ok (.iload_n 0, 1) := by decide +kernel
theorem d_Mod_isPlain_73 : decode prog_14_method_30_code 73 = .ok (.bipush 113, 2) := by decide +kernel
theorem d_Mod_isPlain_75 : decode prog_14_method_30_code 75 = .ok (.if_icmp .ne 7, 3) := by decide +kernel
theorem d_Mod_isPlain_78 : decode prog_14_method_30_code 78 = .ok (.iconst 1, 1) := by decide +kernel
theorem d_Mod_isPlain_79 : decode prog_14_method_30_code 79 = .ok (.goto 4, 3) := by decide +kernel
theorem d_Mod_isPlain_82 : decode prog_14_method_30_code 82 = .ok (.iconst 0, 1) := by decide +kernel
theorem d_Mod_isPlain_83 : decode prog_14_method_30_code 83 = .ok (.ireturn, 1) := by decide +kernel
theorem d_Mod_closed_0 : decode prog_14_method_31_code 0 = .ok (.aload_n 0, 1) := by decide +kernel
theorem d_Mod_closed_1 : decode prog_14_method_31_code 1 = .ok (.invokevirtual 183, 3) := by decide +kernel
theorem d_Mod_closed_4 : decode prog_14_method_31_code 4 = .ok (.istore_n 1, 1) := by decide +kernel
theorem d_Mod_closed_5 : decode prog_14_method_31_code 5 = .ok (.aload_n 0, 1) := by decide +kernel
theorem d_Mod_closed_6 : decode prog_14_method_31_code 6 = .ok (.getfield 179, 3) := by decide +kernel
theorem d_Mod_closed_9 : decode prog_14_method_31_code 9 = .ok (.ifCond .ne 40, 3) := by decide +kernel
theorem d_Mod_closed_12 : decode prog_14_method_31_code 12 = .ok (.iload_n 1, 1) := by decide +kernel
theorem d_Mod_closed_13 : decode prog_14_method_31_code 13 = .ok (.iconst (-1), 1) := by decide +kernel
theorem d_Mod_closed_14 : decode prog_14_method_31_code 14 = .ok (.if_icmp .eq 35, 3) := by decide +kernel
theorem d_Mod_closed_17 : decode prog_14_method_31_code 17 = .ok (.iload_n 1, 1) := by decide +kernel
theorem d_Mod_closed_18 : decode prog_14_method_31_code 18 = .ok (.bipush 32, 2) := by decide +kernel
theorem d_Mod_closed_20 : decode prog_14_method_31_code 20 = .ok (.if_icmp .eq 29, 3) := by decide +kernel
theorem d_Mod_closed_23 : decode prog_14_method_31_code 23 = .ok (.iload_n 1, 1) := by decide +kernel
theorem d_Mod_closed_24 : decode prog_14_method_31_code 24 = .ok (.bipush 10, 2) := by decide +kernel
theorem d_Mod_closed_26 : decode prog_14_method_31_code 26 = .ok (.if_icmp .eq 23, 3) := by decide +kernel
theorem d_Mod_closed_29 : decode prog_14_method_31_code 29 = .ok (.iload_n 1, 1) := by decide +kernel
theorem d_Mod_closed_30 : decode prog_14_method_31_code 30 = .ok (.bipush 59, 2) := by decide +kernel
theorem d_Mod_closed_32 : decode prog_14_method_31_code 32 = .ok (.if_icmp .eq 17, 3) := by decide +kernel
theorem d_Mod_closed_35 : decode prog_14_method_31_code 35 = .ok (.iload_n 1, 1) := by decide +kernel
theorem d_Mod_closed_36 : decode prog_14_method_31_code 36 = .ok (.bipush 125, 2) := by decide +kernel
theorem d_Mod_closed_38 : decode prog_14_method_31_code 38 = .ok (.if_icmp .eq 11, 3) := by decide +kernel
theorem d_Mod_closed_41 : decode prog_14_method_31_code 41 = .ok (.aload_n 0, 1) := by decide +kernel
theorem d_Mod_closed_42 : decode prog_14_method_31_code 42 = .ok (.aload_n 0, 1) := by decide +kernel
theorem d_Mod_closed_43 : decode prog_14_method_31_code 43 = .ok (.getfield 176, 3) := by decide +kernel
theorem d_Mod_closed_46 : decode prog_14_method_31_code 46 = .ok (.invokevirtual 187, 3) := by decide +kernel
theorem d_Mod_closed_49 : decode prog_14_method_31_code 49 = .ok (.return_, 1) := by decide +kernel
theorem d_Mod_label_0 : decode prog_14_method_32_code 0 = .ok (.aload_n 0, 1) := by decide +kernel
theorem d_Mod_label_1 : decode prog_14_method_32_code 1 = .ok (.invokevirtual 183, 3) := by decide +kernel
theorem d_Mod_label_4 : decode prog_14_method_32_code 4 = .ok (.istore_n 3, 1) := by decide +kernel
theorem d_Mod_label_5 : decode prog_14_method_32_code 5 = .ok (.iload_n 2, 1) := by decide +kernel
theorem d_Mod_label_6 : decode prog_14_method_32_code 6 = .ok (.ifCond .ne 14, 3) := by decide +kernel
theorem d_Mod_label_9 : decode prog_14_method_32_code 9 = .ok (.aload_n 0, 1) := by decide +kernel
theorem d_Mod_label_10 : decode prog_14_method_32_code 10 = .ok (.aload_n 0, 1) := by decide +kernel
theorem d_Mod_label_11 : decode prog_14_method_32_code 11 = .ok (.getfield 176, 3) := by decide +kernel
theorem d_Mod_label_14 : decode prog_14_method_32_code 14 = .ok (.iconst 1, 1) := by decide +kernel
theorem d_Mod_label_15 : decode prog_14_method_32_code 15 = .ok (.isub, 1) := by decide +kernel
theorem d_Mod_label_16 : decode prog_14_method_32_code 16 = .ok (.invokevirtual 187, 3) := by decide +kernel
theorem d_Mod_label_19 : decode prog_14_method_32_code 19 = .ok (.return_, 1) := by decide +kernel
theorem d_Mod_label_20 : decode prog_14_method_32_code 20 = .ok (.iload_n 3, 1) := by decide +kernel
theorem d_Mod_label_21 : decode prog_14_method_32_code 21 = .ok (.bipush 97, 2) := by decide +kernel
theorem d_Mod_label_23 : decode prog_14_method_32_code 23 = .ok (.bipush 122, 2) := by decide +kernel
theorem d_Mod_label_25 : decode prog_14_method_32_code 25 = .ok (.invokestatic 154, 3) := by decide +kernel
theorem d_Mod_label_28 : decode prog_14_method_32_code 28 = .ok (.ifCond .ne 26, 3) := by decide +kernel
theorem d_Mod_label_31 : decode prog_14_method_32_code 31 = .ok (.aload_n 0, 1) := by decide +kernel
theorem d_Mod_label_32 : decode prog_14_method_32_code 32 = .ok (.iload_n 3, 1) := by decide +kernel
theorem d_Mod_label_33 : decode prog_14_method_32_code 33 = .ok (.iconst (-1), 1) := by decide +kernel
theorem d_Mod_label_34 : decode prog_14_method_32_code 34 = .ok (.if_icmp .ne 10, 3) := by decide +kernel
theorem d_Mod_label_37 : decode prog_14_method_32_code 37 = .ok (.aload_n 0, 1) := by decide +kernel
theorem d_Mod_label_38 : decode prog_14_method_32_code 38 = .ok (.getfield 166, 3) := by decide +kernel
theorem d_Mod_label_41 : decode prog_14_method_32_code 41 = .ok (.goto 7, 3) := by decide +kernel
theorem d_Mod_label_44 : decode prog_14_method_32_code 44 = .ok (.aload_n 0, 1) := by decide +kernel
theorem d_Mod_label_45 : decode prog_14_method_32_code 45 = .ok (.getfield 176, 3) := by decide +kernel
theorem d_Mod_label_48 : decode prog_14_method_32_code 48 = .ok (.invokevirtual 187, 3) := by decide +kernel
theorem d_Mod_label_51 : decode prog_14_method_32_code 51 = .ok (.goto 46, 3) := by decide +kernel
theorem d_Mod_label_54 : decode prog_14_method_32_code 54 = .ok (.aload_n 0, 1) := by decide +kernel
theorem d_Mod_label_55 : decode prog_14_method_32_code 55 = .ok (.getfield 115, 3) := by decide +kernel
theorem d_Mod_label_58 : decode prog_14_method_32_code 58 = .ok (.iload_n 3, 1) := by decide +kernel
theorem d_Mod_label_59 : decode prog_14_method_32_code 59 = .ok (.bipush 97, 2) := by decide +kernel
theorem d_Mod_label_61 : decode prog_14_method_32_code 61 = .ok (.isub, 1) := by decide +kernel
theorem d_Mod_label_62 : decode prog_14_method_32_code 62 = .ok (.iaload, 1) := by decide +kernel
theorem d_Mod_label_63 : decode prog_14_method_32_code 63 = .ok (.ifCond .lt 14, 3) := by decide +kernel
theorem d_Mod_label_66 : decode prog_14_method_32_code 66 = .ok (.aload_n 0, 1) := by decide +kernel
theorem d_Mod_label_67 : decode prog_14_method_32_code 67 = .ok (.aload_n 0, 1) := by decide +kernel
theorem d_Mod_label_68 : decode prog_14_method_32_code 68 = .ok (.getfield 176, 3) := by decide +kernel
theorem d_Mod_label_71 : decode prog_14_method_32_code 71 = .ok (.invokevirtual 187, 3) := by decide +kernel
theorem d_Mod_label_74 : decode prog_14_method_32_code 74 = .ok (.goto 23, 3) := by decide +kernel
theorem d_Mod_label_77 : decode prog_14_method_32_code 77 = .ok (.aload_n 0, 1) := by decide +kernel
theorem d_Mod_label_78 : decode prog_14_method_32_code 78 = .ok (.getfield 115, 3) := by decide +kernel
theorem d_Mod_label_81 : decode prog_14_method_32_code 81 = .ok (.iload_n 3, 1) := by decide +kernel
theorem d_Mod_label_82 : decode prog_14_method_32_code 82 = .ok (.bipush 97, 2) := by decide +kernel
theorem d_Mod_label_84 : decode prog_14_method_32_code 84 = .ok (.isub, 1) := by decide +kernel
theorem d_Mod_label_85 : decode prog_14_method_32_code 85 = .ok (.iload_n 1, 1) := by decide +kernel
theorem d_Mod_label_86 : decode prog_14_method_32_code 86 = .ok (.iastore, 1) := by decide +kernel
theorem d_Mod_label_87 : decode prog_14_method_32_code 87 = .ok (.aload_n 0, 1) := by decide +kernel
theorem d_Mod_label_88 : decode prog_14_method_32_code 88 = .ok (.dup, 1) := by decide +kernel
theorem d_Mod_label_89 : decode prog_14_method_32_code 89 = .ok (.getfield 176, 3) := by decide +kernel
theorem d_Mod_label_92 : decode prog_14_method_32_code 92 = .ok (.iconst 1, 1) := by decide +kernel
theorem d_Mod_label_93 : decode prog_14_method_32_code 93 = .ok (.iadd, 1) := by decide +kernel
theorem d_Mod_label_94 : decode prog_14_method_32_code 94 = .ok (.putfield 176, 3) := by decide +kernel
theorem d_Mod_label_97 : decode prog_14_method_32_code 97 = .ok (.aload_n 0, 1) := by decide +kernel
theorem d_Mod_label_98 : decode prog_14_method_32_code 98 = .ok (.invokevirtual 252, 3) := by decide +kernel
theorem d_Mod_label_101 : decode prog_14_method_32_code 101 = .ok (.return_, 1) := by decide +kernel
theorem d_Mod_branch_0 : decode prog_14_method_33_code 0 = .ok (.aload_n 0, 1) := by decide +kernel
theorem d_Mod_branch_1 : decode prog_14_method_33_code 1 = .ok (.getfield 50, 3) := by decide +kernel
theorem d_Mod_branch_4 : decode prog_14_method_33_code 4 = .ok (.iload_n 1, 1) := by decide +kernel
theorem d_Mod_branch_5 : decode prog_14_method_33_code 5 = .ok (.iconst (-1), 1) := by decide +kernel
theorem d_Mod_branch_6 : decode prog_14_method_33_code 6 = .ok (.iastore, 1) := by decide +kernel
theorem d_Mod_branch_7 : decode prog_14_method_33_code 7 = .ok (.aload_n 0, 1) := by decide +kernel
theorem d_Mod_branch_8 : decode prog_14_method_33_code 8 = .ok (.getfield 56, 3) := by decide +kernel
theorem d_Mod_branch_11 : decode prog_14_method_33_code 11 = .ok (.iload_n 1, 1) := by decide +kernel
theorem d_Mod_branch_12 : decode prog_14_method_33_code 12 = .ok (.aload_n 0, 1) := by decide +kernel
theorem d_Mod_branch_13 : decode prog_14_method_33_code 13 = .ok (.getfield 176, 3) := by decide +kernel
theorem d_Mod_branch_16 : decode prog_14_method_33_code 16 = .ok (.iconst 1, 1) := by decide +kernel
theorem d_Mod_branch_17 : decode prog_14_method_33_code 17 = .ok (.isub, 1) := by decide +kernel
theorem d_Mod_branch_18 : decode prog_14_method_33_code 18 = .ok (.iastore, 1) := by decide +kernel
theorem d_Mod_branch_19 : decode prog_14_method_33_code 19 = .ok (.aload_n 0, 1) := by decide +kernel
theorem d_Mod_branch_20 : decode prog_14_method_33_code 20 = .ok (.invokevirtual 183, 3) := by decide +kernel
theorem d_Mod_branch_23 : decode prog_14_method_33_code 23 = .ok (.bipush 97, 2) := by decide +kernel
theorem d_Mod_branch_25 : decode prog_14_method_33_code 25 = .ok (.bipush 122, 2) := by decide +kernel
theorem d_Mod_branch_27 : decode prog_14_method_33_code 27 = .ok (.invokestatic 154, 3) := by decide +kernel
theorem d_Mod_branch_30 : decode prog_14_method_33_code 30 = .ok (.ifCond .eq 26, 3) := by decide +kernel
theorem d_Mod_branch_33 : decode prog_14_method_33_code 33 = .ok (.aload_n 0, 1) := by decide +kernel
theorem d_Mod_branch_34 : decode prog_14_method_33_code 34 = .ok (.getfield 50, 3) := by decide +kernel
theorem d_Mod_branch_37 : decode prog_14_method_33_code 37 = .ok (.iload_n 1, 1) := by decide +kernel
theorem d_Mod_branch_38 : decode prog_14_method_33_code 38 = .ok (.aload_n 0, 1) := by decide +kernel
theorem d_Mod_branch_39 : decode prog_14_method_33_code 39 = .ok (.invokevirtual 183, 3) := by decide +kernel
theorem d_Mod_branch_42 : decode prog_14_method_33_code 42 = .ok (.bipush 97, 2) := by decide +kernel
theorem d_Mod_branch_44 : decode prog_14_method_33_code 44 = .ok (.isub, 1) := by decide +kernel
theorem d_Mod_branch_45 : decode prog_14_method_33_code 45 = .ok (.iastore, 1) := by decide +kernel
theorem d_Mod_branch_46 : decode prog_14_method_33_code 46 = .ok (.aload_n 0, 1) := by decide +kernel
theorem d_Mod_branch_47 : decode prog_14_method_33_code 47 = .ok (.dup, 1) := by decide +kernel
theorem d_Mod_branch_48 : decode prog_14_method_33_code 48 = .ok (.getfield 176, 3) := by decide +kernel
theorem d_Mod_branch_51 : decode prog_14_method_33_code 51 = .ok (.iconst 1, 1) := by decide +kernel
theorem d_Mod_branch_52 : decode prog_14_method_33_code 52 = .ok (.iadd, 1) := by decide +kernel
theorem d_Mod_branch_53 : decode prog_14_method_33_code 53 = .ok (.putfield 176, 3) := by decide +kernel
theorem d_Mod_branch_56 : decode prog_14_method_33_code 56 = .ok (.aload_n 0, 1) := by decide +kernel
theorem d_Mod_branch_57 : decode prog_14_method_33_code 57 = .ok (.invokevirtual 252, 3) := by decide +kernel
theorem d_Mod_branch_60 : decode prog_14_method_33_code 60 = .ok (.return_, 1) := by decide +kernel
theorem d_Mod_command_0 : decode prog_14_method_34_code 0 = .ok (.bipush 40, 2) := by decide +kernel
theorem d_Mod_command_2 : decode prog_14_method_34_code 2 = .ok (.aload_n 0, 1) := by decide +kernel
theorem d_Mod_command_3 : decode prog_14_method_34_code 3 = .ok (.getfield 191, 3) := by decide +kernel
theorem d_Mod_command_6 : decode prog_14_method_34_code 6 = .ok (.imul, 1) := by decide +kernel
theorem d_Mod_command_7 : decode prog_14_method_34_code 7 = .ok (.aload_n 0, 1) := by decide +kernel
theorem d_Mod_command_8 : decode prog_14_method_34_code 8 = .ok (.getfield 69, 3) := by decide +kernel
theorem d_Mod_command_11 : decode prog_14_method_34_code 11 = .ok (.aload_n 0, 1) := by decide +kernel
theorem d_Mod_command_12 : decode prog_14_method_34_code 12 = .ok (.getfield 191, 3) := by decide +kernel
theorem d_Mod_command_15 : decode prog_14_method_34_code 15 = .ok (.iaload, 1) := by decide +kernel
theorem d_Mod_command_16 : decode prog_14_method_34_code 16 = .ok (.iadd, 1) := by decide +kernel
theorem d_Mod_command_17 : decode prog_14_method_34_code 17 = .ok (.istore_n 1, 1) := by decide +kernel
theorem d_Mod_command_18 : decode prog_14_method_34_code 18 = .ok (.aload_n 0, 1) := by decide +kernel
theorem d_Mod_command_19 : decode prog_14_method_34_code 19 = .ok (.getfield 69, 3) := by decide +kernel
theorem d_Mod_command_22 : decode prog_14_method_34_code 22 = .ok (.aload_n 0, 1) := by decide +kernel
theorem d_Mod_command_23 : decode prog_14_method_34_code 23 = .ok (.getfield 191, 3) := by decide +kernel
theorem d_Mod_command_26 : decode prog_14_method_34_code 26 = .ok (.iaload, 1) := by decide +kernel
theorem d_Mod_command_27 : decode prog_14_method_34_code 27 = .ok (.bipush 40, 2) := by decide +kernel
theorem d_Mod_command_29 : decode prog_14_method_34_code 29 = .ok (.if_icmp .ne 12, 3) := by decide +kernel
theorem d_Mod_command_32 : decode prog_14_method_34_code 32 = .ok (.aload_n 0, 1) := by decide +kernel
theorem d_Mod_command_33 : decode prog_14_method_34_code 33 = .ok (.aload_n 0, 1) := by decide +kernel
theorem d_Mod_command_34 : decode prog_14_method_34_code 34 = .ok (.getfield 176, 3) := by decide +kernel
theorem d_Mod_command_37 : decode prog_14_method_34_code 37 = .ok (.invokevirtual 187, 3) := by decide +kernel
theorem d_Mod_command_40 : decode prog_14_method_34_code 40 = .ok (.return_, 1) := by decide +kernel
theorem d_Mod_command_41 : decode prog_14_method_34_code 41 = .ok (.aload_n 0, 1) := by decide +kernel
theorem d_Mod_command_42 : decode prog_14_method_34_code 42 = .ok (.getfield 69, 3) := by decide +kernel
theorem d_Mod_command_45 : decode prog_14_method_34_code 45 = .ok (.aload_n 0, 1) := by decide +kernel
theorem d_Mod_command_46 : decode prog_14_method_34_code 46 = .ok (.getfield 191, 3) := by decide +kernel
theorem d_Mod_command_49 : decode prog_14_method_34_code 49 = .ok (.dup2, 1) := by decide +kernel
theorem d_Mod_command_50 : decode prog_14_method_34_code 50 = .ok (.iaload, 1) := by decide +kernel
theorem d_Mod_command_51 : decode prog_14_method_34_code 51 = .ok (.iconst 1, 1) := by decide +kernel
theorem d_Mod_command_52 : decode prog_14_method_34_code 52 = .ok (.iadd, 1) := by decide +kernel
theorem d_Mod_command_53 : decode prog_14_method_34_code 53 = .ok (.iastore, 1) := by decide +kernel
theorem d_Mod_command_54 : decode prog_14_method_34_code 54 = .ok (.aload_n 0, 1) := by decide +kernel
theorem d_Mod_command_55 : decode prog_14_method_34_code 55 = .ok (.getfield 26, 3) := by decide +kernel
theorem d_Mod_command_58 : decode prog_14_method_34_code 58 = .ok (.iload_n 1, 1) := by decide +kernel
theorem d_Mod_command_59 : decode prog_14_method_34_code 59 = .ok (.aload_n 0, 1) := by decide +kernel
theorem d_Mod_command_60 : decode prog_14_method_34_code 60 = .ok (.invokevirtual 255, 3) := by decide +kernel
theorem d_Mod_command_63 : decode prog_14_method_34_code 63 = .ok (.iastore, 1) := by decide +kernel
theorem d_Mod_command_64 : decode prog_14_method_34_code 64 = .ok (.aload_n 0, 1) := by decide +kernel
theorem d_Mod_command_65 : decode prog_14_method_34_code 65 = .ok (.getfield 29, 3) := by decide +kernel
theorem d_Mod_command_68 : decode prog_14_method_34_code 68 = .ok (.iload_n 1, 1) := by decide +kernel
theorem d_Mod_command_69 : decode prog_14_method_34_code 69 = .ok (.aload_n 0, 1) := by decide +kernel
theorem d_Mod_command_70 : decode prog_14_method_34_code 70 = .ok (.getfield 234, 3) := by decide +kernel
theorem d_Mod_command_73 : decode prog_14_method_34_code 73 = .ok (.iastore, 1) := by decide +kernel
theorem d_Mod_command_74 : decode prog_14_method_34_code 74 = .ok (.aload_n 0, 1) := by decide +kernel
theorem d_Mod_command_75 : decode prog_14_method_34_code 75 = .ok (.getfield 32, 3) := by decide +kernel
theorem d_Mod_command_78 : decode prog_14_method_34_code 78 = .ok (.iload_n 1, 1) := by decide +kernel
theorem d_Mod_command_79 : decode prog_14_method_34_code 79 = .ok (.iconst 0, 1) := by decide +kernel
theorem d_Mod_command_80 : decode prog_14_method_34_code 80 = .ok (.iastore, 1) := by decide +kernel
theorem d_Mod_command_81 : decode prog_14_method_34_code 81 = .ok (.aload_n 0, 1) := by decide +kernel
theorem d_Mod_command_82 : decode prog_14_method_34_code 82 = .ok (.getfield 179, 3) := by decide +kernel
theorem d_Mod_command_85 : decode prog_14_method_34_code 85 = .ok (.ifCond .ne 83, 3) := by decide +kernel
theorem d_Mod_command_88 : decode prog_14_method_34_code 88 = .ok (.aload_n 0, 1) := by decide +kernel
theorem d_Mod_command_89 : decode prog_14_method_34_code 89 = .ok (.getfield 26, 3) := by decide +kernel
theorem d_Mod_command_92 : decode prog_14_method_34_code 92 = .ok (.iload_n 1, 1) := by decide +kernel
theorem d_Mod_command_93 : decode prog_14_method_34_code 93 = .ok (.iaload, 1) := by decide +kernel
theorem d_Mod_command_94 : decode prog_14_method_34_code 94 = .ok (.ifCond .le 74, 3) := by decide +kernel
theorem d_Mod_command_97 : decode prog_14_method_34_code 97 = .ok (.aload_n 0, 1) := by decide +kernel
theorem d_Mod_command_98 : decode prog_14_method_34_code 98 = .ok (.invokevirtual 183, 3) := by decide +kernel
theorem d_Mod_command_101 : decode prog_14_method_34_code 101 = .ok (.bipush 44, 2) := by decide +kernel
theorem d_Mod_command_103 : decode prog_14_method_34_code 103 = .ok (.if_icmp .ne 65, 3) := by decide +kernel
theorem d_Mod_command_106 : decode prog_14_method_34_code 106 = .ok (.aload_n 0, 1) := by decide +kernel
theorem d_Mod_command_107 : decode prog_14_method_34_code 107 = .ok (.dup, 1) := by decide +kernel
theorem d_Mod_command_108 : decode prog_14_method_34_code 108 = .ok (.getfield 176, 3) := by decide +kernel
theorem d_Mod_command_111 : decode prog_14_method_34_code 111 = .ok (.iconst 1, 1) := by decide +kernel
theorem d_Mod_command_112 : decode prog_14_method_34_code 112 = .ok (.iadd, 1) := by decide +kernel
theorem d_Mod_command_113 : decode prog_14_method_34_code 113 = .ok (.putfield 176, 3) := by decide +kernel
theorem d_Mod_command_116 : decode prog_14_method_34_code 116 = .ok (.aload_n 0, 1) := by decide +kernel
theorem d_Mod_command_117 : decode prog_14_method_34_code 117 = .ok (.getfield 32, 3) := by decide +kernel
theorem d_Mod_command_120 : decode prog_14_method_34_code 120 = .ok (.iload_n 1, 1) := by decide +kernel
theorem d_Mod_command_121 : decode prog_14_method_34_code 121 = .ok (.aload_n 0, 1) := by decide +kernel
theorem d_Mod_command_122 : decode prog_14_method_34_code 122 = .ok (.invokevirtual 255, 3) := by decide +kernel
theorem d_Mod_command_125 : decode prog_14_method_34_code 125 = .ok (.iastore, 1) := by decide +kernel
theorem d_Mod_command_126 : decode prog_14_method_34_code 126 = .ok (.aload_n 0, 1) := by decide +kernel
theorem d_Mod_command_127 : decode prog_14_method_34_code 127 = .ok (.getfield 35, 3) := by decide +kernel
theorem d_Mod_command_130 : decode prog_14_method_34_code 130 = .ok (.iload_n 1, 1) := by decide +kernel
theorem d_Mod_command_131 : decode prog_14_method_34_code 131 = .ok (.aload_n 0, 1) := by decide +kernel
theorem d_Mod_command_132 : decode prog_14_method_34_code 132 = .ok (.getfield 234, 3) := by decide +kernel
theorem d_Mod_command_135 : decode prog_14_method_34_code 135 = .ok (.iastore, 1) := by decide +kernel
theorem d_Mod_command_136 : decode prog_14_method_34_code 136 = .ok (.aload_n 0, 1) := by decide +kernel
theorem d_Mod_command_137 : decode prog_14_method_34_code 137 = .ok (.getfield 32, 3) := by decide +kernel
theorem d_Mod_command_140 : decode prog_14_method_34_code 140 = .ok (.iload_n 1, 1) := by decide +kernel
theorem d_Mod_command_141 : decode prog_14_method_34_code 141 = .ok (.iaload, 1) := by decide +kernel
theorem d_Mod_command_142 : decode prog_14_method_34_code 142 = .ok (.ifCond .ne 26, 3) := by decide +kernel
theorem d_Mod_command_145 : decode prog_14_method_34_code 145 = .ok (.aload_n 0, 1) := by decide +kernel
theorem d_Mod_command_146 : decode prog_14_method_34_code 146 = .ok (.aload_n 0, 1) := by decide +kernel
theorem d_Mod_command_147 : decode prog_14_method_34_code 147 = .ok (.invokevirtual 183, 3) := by decide +kernel
theorem d_Mod_command_150 : decode prog_14_method_34_code 150 = .ok (.iconst (-1), 1) := by decide +kernel
theorem d_Mod_command_151 : decode prog_14_method_34_code 151 = .ok (.if_icmp .ne 10, 3) := by decide +kernel
theorem d_Mod_command_154 : decode prog_14_method_34_code 154 = .ok (.aload_n 0, 1) := by decide +kernel
theorem d_Mod_command_155 : decode prog_14_method_34_code 155 = .ok (.getfield 166, 3) := by decide +kernel
theorem d_Mod_command_158 : decode prog_14_method_34_code 158 = .ok (.goto 7, 3) := by decide +kernel
theorem d_Mod_command_161 : decode prog_14_method_34_code 161 = .ok (.aload_n 0, 1) := by decide +kernel
theorem d_Mod_command_162 : decode prog_14_method_34_code 162 = .ok (.getfield 176, 3) := by decide +kernel
theorem d_Mod_command_165 : decode prog_14_method_34_code 165 = .ok (.invokevirtual 187, 3) := by decide +kernel
theorem d_Mod_command_168 : decode prog_14_method_34_code 168 = .ok (.aload_n 0, 1) := by decide +kernel
theorem d_Mod_command_169 : decode prog_14_method_34_code 169 = .ok (.getfield 179, 3) := by decide +kernel
theorem d_Mod_command_172 : decode prog_14_method_34_code 172 = .ok (.ifCond .eq 4, 3) := by decide +kernel
theorem d_Mod_command_175 : decode prog_14_method_34_code 175 = .ok (.return_, 1) := by decide +kernel
theorem d_Mod_command_176 : decode prog_14_method_34_code 176 = .ok (.aload_n 0, 1) := by decide +kernel
theorem d_Mod_command_177 : decode prog_14_method_34_code 177 = .ok (.invokevirtual 258, 3) := by decide +kernel
theorem d_Mod_command_180 : decode prog_14_method_34_code 180 = .ok (.aload_n 0, 1) := by decide +kernel
theorem d_Mod_command_181 : decode prog_14_method_34_code 181 = .ok (.getfield 59, 3) := by decide +kernel
theorem d_Mod_command_184 : decode prog_14_method_34_code 184 = .ok (.iload_n 1, 1) := by decide +kernel
theorem d_Mod_command_185 : decode prog_14_method_34_code 185 = .ok (.aload_n 0, 1) := by decide +kernel
theorem d_Mod_command_186 : decode prog_14_method_34_code 186 = .ok (.invokevirtual 183, 3) := by decide +kernel
theorem d_Mod_command_189 : decode prog_14_method_34_code 189 = .ok (.bipush 33, 2) := by decide +kernel
theorem d_Mod_command_191 : decode prog_14_method_34_code 191 = .ok (.if_icmp .ne 7, 3) := by decide +kernel
theorem d_Mod_command_194 : decode prog_14_method_34_code 194 = .ok (.iconst 1, 1) := by decide +kernel
theorem d_Mod_command_195 : decode prog_14_method_34_code 195 = .ok (.goto 4, 3) := by decide +kernel
theorem d_Mod_command_198 : decode prog_14_method_34_code 198 = .ok (.iconst 0, 1) := by decide +kernel
theorem d_Mod_command_199 : decode prog_14_method_34_code 199 = .ok (.bastore, 1) := by decide +kernel
theorem d_Mod_command_200 : decode prog_14_method_34_code 200 = .ok (.aload_n 0, 1) := by decide +kernel
theorem d_Mod_command_201 : decode prog_14_method_34_code 201 = .ok (.getfield 59, 3) := by decide +kernel
theorem d_Mod_command_204 : decode prog_14_method_34_code 204 = .ok (.iload_n 1, 1) := by decide +kernel
theorem d_Mod_command_205 : decode prog_14_method_34_code 205 = .ok (.baload, 1) := by decide +kernel
theorem d_Mod_command_206 : decode prog_14_method_34_code 206 = .ok (.ifCond .eq 13, 3) := by decide +kernel
theorem d_Mod_command_209 : decode prog_14_method_34_code 209 = .ok (.aload_n 0, 1) := by decide +kernel
theorem d_Mod_command_210 : decode prog_14_method_34_code 210 = .ok (.dup, 1) := by decide +kernel
theorem d_Mod_command_211 : decode prog_14_method_34_code 211 = .ok (.getfield 176, 3) := by decide +kernel
theorem d_Mod_command_214 : decode prog_14_method_34_code 214 = .ok (.iconst 1, 1) := by decide +kernel
theorem d_Mod_command_215 : decode prog_14_method_34_code 215 = .ok (.iadd, 1) := by decide +kernel
theorem d_Mod_command_216 : decode prog_14_method_34_code 216 = .ok (.putfield 176, 3) := by decide +kernel
theorem d_Mod_command_219 : decode prog_14_method_34_code 219 = .ok (.aload_n 0, 1) := by decide +kernel
theorem d_Mod_command_220 : decode prog_14_method_34_code 220 = .ok (.invokevirtual 258, 3) := by decide +kernel
theorem d_Mod_command_223 : decode prog_14_method_34_code 223 = .ok (.aload_n 0, 1) := by decide +kernel
theorem d_Mod_command_224 : decode prog_14_method_34_code 224 = .ok (.invokevirtual 183, 3) := by decide +kernel
theorem d_Mod_command_227 : decode prog_14_method_34_code 227 = .ok (.istore_n 2, 1) := by decide +kernel
theorem d_Mod_command_228 : decode prog_14_method_34_code 228 = .ok (.aload_n 0, 1) := by decide +kernel
theorem d_Mod_command_229 : decode prog_14_method_34_code 229 = .ok (.getfield 23, 3) := by decide +kernel
theorem d_Mod_command_232 : decode prog_14_method_34_code 232 = .ok (.iload_n 1, 1) := by decide +kernel
theorem d_Mod_command_233 : decode prog_14_method_34_code 233 = .ok (.iload_n 2, 1) := by decide +kernel
theorem d_Mod_command_234 : decode prog_14_method_34_code 234 = .ok (.iastore, 1) := by decide +kernel
theorem d_Mod_command_235 : decode prog_14_method_34_code 235 = .ok (.iload_n 2, 1) := by decide +kernel
theorem d_Mod_command_236 : decode prog_14_method_34_code 236 = .ok (.iconst (-1), 1) := by decide +kernel
theorem d_Mod_command_237 : decode prog_14_method_34_code 237 = .ok (.if_icmp .ne 12, 3) := by decide +kernel
theorem d_Mod_command_240 : decode prog_14_method_34_code 240 = .ok (.aload_n 0, 1) := by decide +kernel
theorem d_Mod_command_241 : decode prog_14_method_34_code 241 = .ok (.aload_n 0, 1) := by decide +kernel
theorem d_Mod_command_242 : decode prog_14_method_34_code 242 = .ok (.getfield 166, 3) := by decide +kernel
theorem d_Mod_command_245 : decode prog_14_method_34_code 245 = .ok (.invokevirtual 187, 3) := by decide +kernel
theorem d_Mod_command_248 : decode prog_14_method_34_code 248 = .ok (.return_, 1) := by decide +kernel
theorem d_Mod_command_249 : decode prog_14_method_34_code 249 = .ok (.aload_n 0, 1) := by decide +kernel
theorem d_Mod_command_250 : decode prog_14_method_34_code 250 = .ok (.dup, 1) := by decide +kernel
theorem d_Mod_command_251 : decode prog_14_method_34_code 251 = .ok (.getfield 176, 3) := by decide +kernel
theorem d_Mod_command_254 : decode prog_14_method_34_code 254 = .ok (.iconst 1, 1) := by decide +kernel
theorem d_Mod_command_255 : decode prog_14_method_34_code 255 = .ok (.iadd, 1) := by decide +kernel
theorem d_Mod_command_256 : decode prog_14_method_34_code 256 = .ok (.putfield 176, 3) := by decide +kernel
theorem d_Mod_command_259 : decode prog_14_method_34_code 259 = .ok (.iload_n 2, 1) := by decide +kernel
theorem d_Mod_command_260 : decode prog_14_method_34_code 260 = .ok (.bipush 123, 2) := by decide +kernel
theorem d_Mod_command_262 : decode prog_14_method_34_code 262 = .ok (.if_icmp .ne 47, 3) := by decide +kernel
theorem d_Mod_command_265 : decode prog_14_method_34_code 265 = .ok (.aload_n 0, 1) := by decide +kernel
theorem d_Mod_command_266 : decode prog_14_method_34_code 266 = .ok (.getfield 261, 3) := by decide +kernel
theorem d_Mod_command_269 : decode prog_14_method_34_code 269 = .ok (.iconst 4, 1) := by decide +kernel
theorem d_Mod_command_270 : decode prog_14_method_34_code 270 = .ok (.if_icmp .ne 16, 3) := by decide +kernel
theorem d_Mod_command_273 : decode prog_14_method_34_code 273 = .ok (.aload_n 0, 1) := by decide +kernel
theorem d_Mod_command_274 : decode prog_14_method_34_code 274 = .ok (.aload_n 0, 1) := by decide +kernel
theorem d_Mod_command_275 : decode prog_14_method_34_code 275 = .ok (.getfield 176, 3) := by decide +kernel
theorem d_Mod_command_278 : decode prog_14_method_34_code 278 = .ok (.iconst 1, 1) := by decide +kernel
theorem d_Mod_command_279 : decode prog_14_method_34_code 279 = .ok (.isub, 1) := by decide +kernel
theorem d_Mod_command_280 : decode prog_14_method_34_code 280 = .ok (.invokevirtual 187, 3) := by decide +kernel
theorem d_Mod_command_283 : decode prog_14_method_34_code 283 = .ok (.goto 169, 3) := by decide +kernel
theorem d_Mod_command_286 : decode prog_14_method_34_code 286 = .ok (.aload_n 0, 1) := by decide +kernel
theorem d_Mod_command_287 : decode prog_14_method_34_code 287 = .ok (.getfield 118, 3) := by decide +kernel
theorem d_Mod_command_290 : decode prog_14_method_34_code 290 = .ok (.aload_n 0, 1) := by decide +kernel
theorem d_Mod_command_291 : decode prog_14_method_34_code 291 = .ok (.getfield 261, 3) := by decide +kernel
theorem d_Mod_command_294 : decode prog_14_method_34_code 294 = .ok (.iload_n 1, 1) := by decide +kernel
theorem d_Mod_command_295 : decode prog_14_method_34_code 295 = .ok (.iastore, 1) := by decide +kernel
theorem d_Mod_command_296 : decode prog_14_method_34_code 296 = .ok (.aload_n 0, 1) := by decide +kernel
theorem d_Mod_command_297 : decode prog_14_method_34_code 297 = .ok (.dup, 1) := by decide +kernel
theorem d_Mod_command_298 : decode prog_14_method_34_code 298 = .ok (.getfield 261, 3) := by decide +kernel
theorem d_Mod_command_301 : decode prog_14_method_34_code 301 = .ok (.iconst 1, 1) := by decide +kernel
theorem d_Mod_command_302 : decode prog_14_method_34_code 302 = .ok (.iadd, 1) := by decide +kernel
theorem d_Mod_command_303 : decode prog_14_method_34_code 303 = .ok (.putfield 261, 3) := by decide +kernel
theorem d_Mod_command_306 : decode prog_14_method_34_code 306 = .ok (.goto 146, 3) := by decide +kernel
theorem d_Mod_command_309 : decode prog_14_method_34_code 309 = .ok (.iload_n 2, 1) := by decide +kernel
theorem d_Mod_command_310 : decode prog_14_method_34_code 310 = .ok (.bipush 58, 2) := by decide +kernel
theorem d_Mod_command_312 : decode prog_14_method_34_code 312 = .ok (.if_icmp .ne 34, 3) := by decide +kernel
theorem d_Mod_command_315 : decode prog_14_method_34_code 315 = .ok (.aload_n 0, 1) := by decide +kernel
theorem d_Mod_command_316 : decode prog_14_method_34_code 316 = .ok (.iload_n 1, 1) := by decide +kernel
theorem d_Mod_command_317 : decode prog_14_method_34_code 317 = .ok (.aload_n 0, 1) := by decide +kernel
theorem d_Mod_command_318 : decode prog_14_method_34_code 318 = .ok (.getfield 26, 3) := by decide +kernel
theorem d_Mod_command_321 : decode prog_14_method_34_code 321 = .ok (.iload_n 1, 1) := by decide +kernel
theorem d_Mod_command_322 : decode prog_14_method_34_code 322 = .ok (.iaload, 1) := by decide +kernel
theorem d_Mod_command_323 : decode prog_14_method_34_code 323 = .ok (.ifCond .ne 16, 3) := by decide +kernel
theorem d_Mod_command_326 : decode prog_14_method_34_code 326 = .ok (.aload_n 0, 1) := by decide +kernel
theorem d_Mod_command_327 : decode prog_14_method_34_code 327 = .ok (.getfield 59, 3) := by decide +kernel
theorem d_Mod_command_330 : decode prog_14_method_34_code 330 = .ok (.iload_n 1, 1) := by decide +kernel
theorem d_Mod_command_331 : decode prog_14_method_34_code 331 = .ok (.baload, 1) := by decide +kernel
theorem d_Mod_command_332 : decode prog_14_method_34_code 332 = .ok (.ifCond .ne 7, 3) := by decide +kernel
theorem d_Mod_command_335 : decode prog_14_method_34_code 335 = .ok (.iconst 1, 1) := by decide +kernel
theorem d_Mod_command_336 : decode prog_14_method_34_code 336 = .ok (.goto 4, 3) := by decide +kernel
theorem d_Mod_command_339 : decode prog_14_method_34_code 339 = .ok (.iconst 0, 1) := by decide +kernel
theorem d_Mod_command_340 : decode prog_14_method_34_code 340 = .ok (.invokevirtual 264, 3) := by decide +kernel
theorem d_Mod_command_343 : decode prog_14_method_34_code 343 = .ok (.goto 109, 3) := by decide +kernel
theorem d_Mod_command_346 : decode prog_14_method_34_code 346 = .ok (.iload_n 2, 1) := by decide +kernel
theorem d_Mod_command_347 : decode prog_14_method_34_code 347 = .ok (.bipush 98, 2) := by decide +kernel
theorem d_Mod_command_349 : decode prog_14_method_34_code 349 = .ok (.if_icmp .eq 9, 3) := by decide +kernel
theorem d_Mod_command_352 : decode prog_14_method_34_code 352 = .ok (.iload_n 2, 1) := by decide +kernel
theorem d_Mod_command_353 : decode prog_14_method_34_code 353 = .ok (.bipush 116, 2) := by decide +kernel
theorem d_Mod_command_355 : decode prog_14_method_34_code 355 = .ok (.if_icmp .ne 11, 3) := by decide +kernel
theorem d_Mod_command_358 : decode prog_14_method_34_code 358 = .ok (.aload_n 0, 1) := by decide +kernel
theorem d_Mod_command_359 : decode prog_14_method_34_code 359 = .ok (.iload_n 1, 1) := by decide +kernel
theorem d_Mod_command_360 : decode prog_14_method_34_code 360 = .ok (.invokevirtual 268, 3) := by decide +kernel
theorem d_Mod_command_363 : decode prog_14_method_34_code 363 = .ok (.goto 89, 3) := by decide +kernel
theorem d_Mod_command_366 : decode prog_14_method_34_code 366 = .ok (.iload_n 2, 1) := by decide +kernel
theorem d_Mod_command_367 : decode prog_14_method_34_code 367 = .ok (.bipush 115, 2) := by decide +kernel
theorem d_Mod_command_369 : decode prog_14_method_34_code 369 = .ok (.if_icmp .ne 15, 3) := by decide +kernel
theorem d_Mod_command_372 : decode prog_14_method_34_code 372 = .ok (.aload_n 0, 1) := by decide +kernel
theorem d_Mod_command_373 : decode prog_14_method_34_code 373 = .ok (.iload_n 1, 1) := by decide +kernel
theorem d_Mod_command_374 : decode prog_14_method_34_code 374 = .ok (.invokevirtual 271, 3) := by decide +kernel
theorem d_Mod_command_377 : decode prog_14_method_34_code 377 = .ok (.aload_n 0, 1) := by decide +kernel
theorem d_Mod_command_378 : decode prog_14_method_34_code 378 = .ok (.invokevirtual 252, 3) := by decide +kernel
theorem d_Mod_command_381 : decode prog_14_method_34_code 381 = .ok (.goto 71, 3) := by decide +kernel
theorem d_Mod_command_384 : decode prog_14_method_34_code 384 = .ok (.iload_n 2, 1) := by decide +kernel
theorem d_Mod_command_385 : decode prog_14_method_34_code 385 = .ok (.bipush 121, 2) := by decide +kernel
theorem d_Mod_command_387 : decode prog_14_method_34_code 387 = .ok (.if_icmp .ne 15, 3) := by decide +kernel
theorem d_Mod_command_390 : decode prog_14_method_34_code 390 = .ok (.aload_n 0, 1) := by decide +kernel
theorem d_Mod_command_391 : decode prog_14_method_34_code 391 = .ok (.iload_n 1, 1) := by decide +kernel
theorem d_Mod_command_392 : decode prog_14_method_34_code 392 = .ok (.invokevirtual 274, 3) := by decide +kernel
theorem d_Mod_command_395 : decode prog_14_method_34_code 395 = .ok (.aload_n 0, 1) := by decide +kernel
theorem d_Mod_command_396 : decode prog_14_method_34_code 396 = .ok (.invokevirtual 252, 3) := by decide +kernel
theorem d_Mod_command_399 : decode prog_14_method_34_code 399 = .ok (.goto 53, 3) := by decide +kernel
theorem d_Mod_command_402 : decode prog_14_method_34_code 402 = .ok (.iload_n 2, 1) := by decide +kernel
theorem d_Mod_command_403 : decode prog_14_method_34_code 403 = .ok (.bipush 97, 2) := by decide +kernel
theorem d_Mod_command_405 : decode prog_14_method_34_code 405 = .ok (.if_icmp .eq 15, 3) := by decide +kernel
theorem d_Mod_command_408 : decode prog_14_method_34_code 408 = .ok (.iload_n 2, 1) := by decide +kernel
theorem d_Mod_command_409 : decode prog_14_method_34_code 409 = .ok (.bipush 105, 2) := by decide +kernel
theorem d_Mod_command_411 : decode prog_14_method_34_code 411 = .ok (.if_icmp .eq 9, 3) := by decide +kernel
theorem d_Mod_command_414 : decode prog_14_method_34_code 414 = .ok (.iload_n 2, 1) := by decide +kernel
theorem d_Mod_command_415 : decode prog_14_method_34_code 415 = .ok (.bipush 99, 2) := by decide +kernel
theorem d_Mod_command_417 : decode prog_14_method_34_code 417 = .ok (.if_icmp .ne 11, 3) := by decide +kernel
theorem d_Mod_command_420 : decode prog_14_method_34_code 420 = .ok (.aload_n 0, 1) := by decide +kernel
theorem d_Mod_command_421 : decode prog_14_method_34_code 421 = .ok (.iload_n 1, 1) := by decide +kernel
theorem d_Mod_command_422 : decode prog_14_method_34_code 422 = .ok (.invokevirtual 277, 3) := by decide +kernel
theorem d_Mod_command_425 : decode prog_14_method_34_code 425 = .ok (.goto 27, 3) := by decide +kernel
theorem d_Mod_command_428 : decode prog_14_method_34_code 428 = .ok (.iload_n 2, 1) := by decide +kernel
theorem d_Mod_command_429 : decode prog_14_method_34_code 429 = .ok (.invokestatic 280, 3) := by decide +kernel
theorem d_Mod_command_432 : decode prog_14_method_34_code 432 = .ok (.ifCond .eq 10, 3) := by decide +kernel
theorem d_Mod_command_435 : decode prog_14_method_34_code 435 = .ok (.aload_n 0, 1) := by decide +kernel
theorem d_Mod_command_436 : decode prog_14_method_34_code 436 = .ok (.invokevirtual 252, 3) := by decide +kernel
theorem d_Mod_command_439 : decode prog_14_method_34_code 439 = .ok (.goto 13, 3) := by decide +kernel
theorem d_Mod_command_442 : decode prog_14_method_34_code 442 = .ok (.aload_n 0, 1) := by decide +kernel
theorem d_Mod_command_443 : decode prog_14_method_34_code 443 = .ok (.aload_n 0, 1) := by decide +kernel
theorem d_Mod_command_444 : decode prog_14_method_34_code 444 = .ok (.getfield 176, 3) := by decide +kernel
theorem d_Mod_command_447 : decode prog_14_method_34_code 447 = .ok (.iconst 1, 1) := by decide +kernel
theorem d_Mod_command_448 : decode prog_14_method_34_code 448 = .ok (.isub, 1) := by decide +kernel
theorem d_Mod_command_449 : decode prog_14_method_34_code 449 = .ok (.invokevirtual 187, 3) := by decide +kernel
theorem d_Mod_command_452 : decode prog_14_method_34_code 452 = .ok (.return_, 1) := by decide +kernel
