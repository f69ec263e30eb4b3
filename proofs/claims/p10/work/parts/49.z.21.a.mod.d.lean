theorem d_Mod_isMember_0 : decode prog_14_method_20_code 0 = .ok (.aload_n 0, 1) := by decide +kernel
theorem d_Mod_isMember_1 : decode prog_14_method_20_code 1 = .ok (.invokevirtual 183, 3) := by decide +kernel
theorem d_Mod_isMember_4 : decode prog_14_method_20_code 4 = .ok (.istore_n 1, 1) := by decide +kernel
theorem d_Mod_isMember_5 : decode prog_14_method_20_code 5 = .ok (.iload_n 1, 1) := by decide +kernel
theorem d_Mod_isMember_6 : decode prog_14_method_20_code 6 = .ok (.iconst (-1), 1) := by decide +kernel
theorem d_Mod_isMember_7 : decode prog_14_method_20_code 7 = .ok (.if_icmp .eq 23, 3) := by decide +kernel
theorem d_Mod_isMember_10 : decode prog_14_method_20_code 10 = .ok (.iload_n 1, 1) := by decide +kernel
theorem d_Mod_isMember_11 : decode prog_14_method_20_code 11 = .ok (.bipush 10, 2) := by decide +kernel
theorem d_Mod_isMember_13 : decode prog_14_method_20_code 13 = .ok (.if_icmp .eq 17, 3) := by decide +kernel
theorem d_Mod_isMember_16 : decode prog_14_method_20_code 16 = .ok (.iload_n 1, 1) := by decide +kernel
theorem d_Mod_isMember_17 : decode prog_14_method_20_code 17 = .ok (.bipush 47, 2) := by decide +kernel
theorem d_Mod_isMember_19 : decode prog_14_method_20_code 19 = .ok (.if_icmp .eq 11, 3) := by decide +kernel
theorem d_Mod_isMember_22 : decode prog_14_method_20_code 22 = .ok (.iload_n 1, 1) := by decide +kernel
theorem d_Mod_isMember_23 : decode prog_14_method_20_code 23 = .ok (.bipush 93, 2) := by decide +kernel
theorem d_Mod_isMember_25 : decode prog_14_method_20_code 25 = .ok (.if_icmp .eq 5, 3) := by decide +kernel
theorem d_Mod_isMember_28 : decode prog_14_method_20_code 28 = .ok (.iconst 1, 1) := by decide +kernel
theorem d_Mod_isMember_29 : decode prog_14_method_20_code 29 = .ok (.ireturn, 1) := by decide +kernel
theorem d_Mod_isMember_30 : decode prog_14_method_20_code 30 = .ok (.aload_n 0, 1) := by decide +kernel
theorem d_Mod_isMember_31 : decode prog_14_method_20_code 31 = .ok (.iload_n 1, 1) := by decide +kernel
theorem d_Mod_isMember_32 : decode prog_14_method_20_code 32 = .ok (.iconst (-1), 1) := by decide +kernel
theorem d_Mod_isMember_33 : decode prog_14_method_20_code 33 = .ok (.if_icmp .ne 10, 3) := by decide +kernel
theorem d_Mod_isMember_36 : decode prog_14_method_20_code 36 = .ok (.aload_n 0, 1) := by decide +kernel
theorem d_Mod_isMember_37 : decode prog_14_method_20_code 37 = .ok (.getfield 166, 3) := by decide +kernel
theorem d_Mod_isMember_40 : decode prog_14_method_20_code 40 = .ok (.goto 7, 3) := by decide +kernel
theorem d_Mod_isMember_43 : decode prog_14_method_20_code 43 = .ok (.aload_n 0, 1) := by decide +kernel
theorem d_Mod_isMember_44 : decode prog_14_method_20_code 44 = .ok (.getfield 176, 3) := by decide +kernel
theorem d_Mod_isMember_47 : decode prog_14_method_20_code 47 = .ok (.invokevirtual 187, 3) := by decide +kernel
theorem d_Mod_isMember_50 : decode prog_14_method_20_code 50 = .ok (.iconst 0, 1) := by decide +kernel
theorem d_Mod_isMember_51 : decode prog_14_method_20_code 51 = .ok (.ireturn, 1) := by decide +kernel
theorem d_Mod_set_0 : decode prog_14_method_21_code 0 = .ok (.aload_n 0, 1) := by decide +kernel
theorem d_Mod_set_1 : decode prog_14_method_21_code 1 = .ok (.iconst 2, 1) := by decide +kernel
theorem d_Mod_set_2 : decode prog_14_method_21_code 2 = .ok (.iconst 0, 1) := by decide +kernel
theorem d_Mod_set_3 : decode prog_14_method_21_code 3 = .ok (.iload_n 1, 1) := by decide +kernel
theorem d_Mod_set_4 : decode prog_14_method_21_code 4 = .ok (.invokevirtual 209, 3) := by decide +kernel
theorem d_Mod_set_7 : decode prog_14_method_21_code 7 = .ok (.aload_n 0, 1) := by decide +kernel
theorem d_Mod_set_8 : decode prog_14_method_21_code 8 = .ok (.getfield 179, 3) := by decide +kernel
theorem d_Mod_set_11 : decode prog_14_method_21_code 11 = .ok (.ifCond .eq 4, 3) := by decide +kernel
theorem d_Mod_set_14 : decode prog_14_method_21_code 14 = .ok (.return_, 1) := by decide +kernel
theorem d_Mod_set_15 : decode prog_14_method_21_code 15 = .ok (.sipush 260, 3) := by decide +kernel
theorem d_Mod_set_18 : decode prog_14_method_21_code 18 = .ok (.aload_n 0, 1) := by decide +kernel
theorem d_Mod_set_19 : decode prog_14_method_21_code 19 = .ok (.getfield 191, 3) := by decide +kernel
theorem d_Mod_set_22 : decode prog_14_method_21_code 22 = .ok (.imul, 1) := by decide +kernel
theorem d_Mod_set_23 : decode prog_14_method_21_code 23 = .ok (.aload_n 0, 1) := by decide +kernel
theorem d_Mod_set_24 : decode prog_14_method_21_code 24 = .ok (.getfield 75, 3) := by decide +kernel
theorem d_Mod_set_27 : decode prog_14_method_21_code 27 = .ok (.aload_n 0, 1) := by decide +kernel
theorem d_Mod_set_28 : decode prog_14_method_21_code 28 = .ok (.getfield 191, 3) := by decide +kernel
theorem d_Mod_set_31 : decode prog_14_method_21_code 31 = .ok (.iaload, 1) := by decide +kernel
theorem d_Mod_set_32 : decode prog_14_method_21_code 32 = .ok (.iadd, 1) := by decide +kernel
theorem d_Mod_set_33 : decode prog_14_method_21_code 33 = .ok (.iconst 1, 1) := by decide +kernel
theorem d_Mod_set_34 : decode prog_14_method_21_code 34 = .ok (.isub, 1) := by decide +kernel
theorem d_Mod_set_35 : decode prog_14_method_21_code 35 = .ok (.istore_n 2, 1) := by decide +kernel
theorem d_Mod_set_36 : decode prog_14_method_21_code 36 = .ok (.aload_n 0, 1) := by decide +kernel
theorem d_Mod_set_37 : decode prog_14_method_21_code 37 = .ok (.dup, 1) := by decide +kernel
theorem d_Mod_set_38 : decode prog_14_method_21_code 38 = .ok (.getfield 176, 3) := by decide +kernel
theorem d_Mod_set_41 : decode prog_14_method_21_code 41 = .ok (.iconst 1, 1) := by decide +kernel
theorem d_Mod_set_42 : decode prog_14_method_21_code 42 = .ok (.iadd, 1) := by decide +kernel
theorem d_Mod_set_43 : decode prog_14_method_21_code 43 = .ok (.putfield 176, 3) := by decide +kernel
theorem d_Mod_set_46 : decode prog_14_method_21_code 46 = .ok (.aload_n 0, 1) := by decide +kernel
theorem d_Mod_set_47 : decode prog_14_method_21_code 47 = .ok (.invokevirtual 183, 3) := by decide +kernel
theorem d_Mod_set_50 : decode prog_14_method_21_code 50 = .ok (.bipush 94, 2) := by decide +kernel
theorem d_Mod_set_52 : decode prog_14_method_21_code 52 = .ok (.if_icmp .ne 7, 3) := by decide +kernel
theorem d_Mod_set_55 : decode prog_14_method_21_code 55 = .ok (.iconst 1, 1) := by decide +kernel
theorem d_Mod_set_56 : decode prog_14_method_21_code 56 = .ok (.goto 4, 3) := by decide +kernel
theorem d_Mod_set_59 : decode prog_14_method_21_code 59 = .ok (.iconst 0, 1) := by decide +kernel
theorem d_Mod_set_60 : decode prog_14_method_21_code 60 = .ok (.istore_n 3, 1) := by decide +kernel
theorem d_Mod_set_61 : decode prog_14_method_21_code 61 = .ok (.iconst 0, 1) := by decide +kernel
theorem d_Mod_set_62 : decode prog_14_method_21_code 62 = .ok (.istore 4, 2) := by decide +kernel
theorem d_Mod_set_64 : decode prog_14_method_21_code 64 = .ok (.iload_n 3, 1) := by decide +kernel
theorem d_Mod_set_65 : decode prog_14_method_21_code 65 = .ok (.ifCond .eq 13, 3) := by decide +kernel
theorem d_Mod_set_68 : decode prog_14_method_21_code 68 = .ok (.aload_n 0, 1) := by decide +kernel
theorem d_Mod_set_69 : decode prog_14_method_21_code 69 = .ok (.dup, 1) := by decide +kernel
theorem d_Mod_set_70 : decode prog_14_method_21_code 70 = .ok (.getfield 176, 3) := by decide +kernel
theorem d_Mod_set_73 : decode prog_14_method_21_code 73 = .ok (.iconst 1, 1) := by decide +kernel
theorem d_Mod_set_74 : decode prog_14_method_21_code 74 = .ok (.iadd, 1) := by decide +kernel
theorem d_Mod_set_75 : decode prog_14_method_21_code 75 = .ok (.putfield 176, 3) := by decide +kernel
theorem d_Mod_set_78 : decode prog_14_method_21_code 78 = .ok (.aload_n 0, 1) := by decide +kernel
theorem d_Mod_set_79 : decode prog_14_method_21_code 79 = .ok (.getfield 179, 3) := by decide +kernel
theorem d_Mod_set_82 : decode prog_14_method_21_code 82 = .ok (.ifCond .ne 135, 3) := by decide +kernel
theorem d_Mod_set_85 : decode prog_14_method_21_code 85 = .ok (.iload 4, 2) := by decide +kernel
theorem d_Mod_set_87 : decode prog_14_method_21_code 87 = .ok (.ifCond .eq 12, 3) := by decide +kernel
theorem d_Mod_set_90 : decode prog_14_method_21_code 90 = .ok (.aload_n 0, 1) := by decide +kernel
theorem d_Mod_set_91 : decode prog_14_method_21_code 91 = .ok (.invokevirtual 183, 3) := by decide +kernel
theorem d_Mod_set_94 : decode prog_14_method_21_code 94 = .ok (.bipush 93, 2) := by decide +kernel
theorem d_Mod_set_96 : decode prog_14_method_21_code 96 = .ok (.if_icmp .eq 121, 3) := by decide +kernel
theorem d_Mod_set_99 : decode prog_14_method_21_code 99 = .ok (.aload_n 0, 1) := by decide +kernel
theorem d_Mod_set_100 : decode prog_14_method_21_code 100 = .ok (.invokevirtual 213, 3) := by decide +kernel
theorem d_Mod_set_103 : decode prog_14_method_21_code 103 = .ok (.istore 5, 2) := by decide +kernel
theorem d_Mod_set_105 : decode prog_14_method_21_code 105 = .ok (.iload 5, 2) := by decide +kernel
theorem d_Mod_set_107 : decode prog_14_method_21_code 107 = .ok (.ifCond .ne 4, 3) := by decide +kernel
theorem d_Mod_set_110 : decode prog_14_method_21_code 110 = .ok (.return_, 1) := by decide +kernel
theorem d_Mod_set_111 : decode prog_14_method_21_code 111 = .ok (.aload_n 0, 1) := by decide +kernel
theorem d_Mod_set_112 : decode prog_14_method_21_code 112 = .ok (.invokevirtual 183, 3) := by decide +kernel
theorem d_Mod_set_115 : decode prog_14_method_21_code 115 = .ok (.istore 6, 2) := by decide +kernel
theorem d_Mod_set_117 : decode prog_14_method_21_code 117 = .ok (.iload 6, 2) := by decide +kernel
theorem d_Mod_set_119 : decode prog_14_method_21_code 119 = .ok (.istore 7, 2) := by decide +kernel
theorem d_Mod_set_121 : decode prog_14_method_21_code 121 = .ok (.aload_n 0, 1) := by decide +kernel
theorem d_Mod_set_122 : decode prog_14_method_21_code 122 = .ok (.dup, 1) := by decide +kernel
theorem d_Mod_set_123 : decode prog_14_method_21_code 123 = .ok (.getfield 176, 3) := by decide +kernel
theorem d_Mod_set_126 : decode prog_14_method_21_code 126 = .ok (.iconst 1, 1) := by decide +kernel
theorem d_Mod_set_127 : decode prog_14_method_21_code 127 = .ok (.iadd, 1) := by decide +kernel
theorem d_Mod_set_128 : decode prog_14_method_21_code 128 = .ok (.putfield 176, 3) := by decide +kernel
theorem d_Mod_set_131 : decode prog_14_method_21_code 131 = .ok (.aload_n 0, 1) := by decide +kernel
theorem d_Mod_set_132 : decode prog_14_method_21_code 132 = .ok (.invokevirtual 183, 3) := by decide +kernel
theorem d_Mod_set_135 : decode prog_14_method_21_code 135 = .ok (.bipush 45, 2) := by decide +kernel
theorem d_Mod_set_137 : decode prog_14_method_21_code 137 = .ok (.if_icmp .ne 65, 3) := by decide +kernel
theorem d_Mod_set_140 : decode prog_14_method_21_code 140 = .ok (.aload_n 0, 1) := by decide +kernel
theorem d_Mod_set_141 : decode prog_14_method_21_code 141 = .ok (.invokevirtual 200, 3) := by decide +kernel
theorem d_Mod_set_144 : decode prog_14_method_21_code 144 = .ok (.bipush 93, 2) := by decide +kernel
theorem d_Mod_set_146 : decode prog_14_method_21_code 146 = .ok (.if_icmp .eq 56, 3) := by decide +kernel
theorem d_Mod_set_149 : decode prog_14_method_21_code 149 = .ok (.aload_n 0, 1) := by decide +kernel
theorem d_Mod_set_150 : decode prog_14_method_21_code 150 = .ok (.dup, 1) := by decide +kernel
theorem d_Mod_set_151 : decode prog_14_method_21_code 151 = .ok (.getfield 176, 3) := by decide +kernel
theorem d_Mod_set_154 : decode prog_14_method_21_code 154 = .ok (.iconst 1, 1) := by decide +kernel
theorem d_Mod_set_155 : decode prog_14_method_21_code 155 = .ok (.iadd, 1) := by decide +kernel
theorem d_Mod_set_156 : decode prog_14_method_21_code 156 = .ok (.putfield 176, 3) := by decide +kernel
theorem d_Mod_set_159 : decode prog_14_method_21_code 159 = .ok (.aload_n 0, 1) := by decide +kernel
theorem d_Mod_set_160 : decode prog_14_method_21_code 160 = .ok (.invokevirtual 213, 3) := by decide +kernel
theorem d_Mod_set_163 : decode prog_14_method_21_code 163 = .ok (.istore 5, 2) := by decide +kernel
theorem d_Mod_set_165 : decode prog_14_method_21_code 165 = .ok (.iload 5, 2) := by decide +kernel
theorem d_Mod_set_167 : decode prog_14_method_21_code 167 = .ok (.ifCond .ne 4, 3) := by decide +kernel
theorem d_Mod_set_170 : decode prog_14_method_21_code 170 = .ok (.return_, 1) := by decide +kernel
theorem d_Mod_set_171 : decode prog_14_method_21_code 171 = .ok (.aload_n 0, 1) := by decide +kernel
theorem d_Mod_set_172 : decode prog_14_method_21_code 172 = .ok (.invokevirtual 183, 3) := by decide +kernel
theorem d_Mod_set_175 : decode prog_14_method_21_code 175 = .ok (.istore 7, 2) := by decide +kernel
theorem d_Mod_set_177 : decode prog_14_method_21_code 177 = .ok (.iload 7, 2) := by decide +kernel
theorem d_Mod_set_179 : decode prog_14_method_21_code 179 = .ok (.iload 6, 2) := by decide +kernel
theorem d_Mod_set_181 : decode prog_14_method_21_code 181 = .ok (.if_icmp .ge 11, 3) := by decide +kernel
theorem d_Mod_set_184 : decode prog_14_method_21_code 184 = .ok (.aload_n 0, 1) := by decide +kernel
theorem d_Mod_set_185 : decode prog_14_method_21_code 185 = .ok (.aload_n 0, 1) := by decide +kernel
theorem d_Mod_set_186 : decode prog_14_method_21_code 186 = .ok (.getfield 176, 3) := by decide +kernel
theorem d_Mod_set_189 : decode prog_14_method_21_code 189 = .ok (.invokevirtual 187, 3) := by decide +kernel
theorem d_Mod_set_192 : decode prog_14_method_21_code 192 = .ok (.aload_n 0, 1) := by decide +kernel
theorem d_Mod_set_193 : decode prog_14_method_21_code 193 = .ok (.dup, 1) := by decide +kernel
theorem d_Mod_set_194 : decode prog_14_method_21_code 194 = .ok (.getfield 176, 3) := by decide +kernel
theorem d_Mod_set_197 : decode prog_14_method_21_code 197 = .ok (.iconst 1, 1) := by decide +kernel
theorem d_Mod_set_198 : decode prog_14_method_21_code 198 = .ok (.iadd, 1) := by decide +kernel
theorem d_Mod_set_199 : decode prog_14_method_21_code 199 = .ok (.putfield 176, 3) := by decide +kernel
theorem d_Mod_set_202 : decode prog_14_method_21_code 202 = .ok (.aload_n 0, 1) := by decide +kernel
theorem d_Mod_set_203 : decode prog_14_method_21_code 203 = .ok (.iload_n 2, 1) := by decide +kernel
theorem d_Mod_set_204 : decode prog_14_method_21_code 204 = .ok (.iload 6, 2) := by decide +kernel
theorem d_Mod_set_206 : decode prog_14_method_21_code 206 = .ok (.iload 7, 2) := by decide +kernel
theorem d_Mod_set_208 : decode prog_14_method_21_code 208 = .ok (.invokevirtual 217, 3) := by decide +kernel
theorem d_Mod_set_211 : decode prog_14_method_21_code 211 = .ok (.iconst 1, 1) := by decide +kernel
theorem d_Mod_set_212 : decode prog_14_method_21_code 212 = .ok (.istore 4, 2) := by decide +kernel
theorem d_Mod_set_214 : decode prog_14_method_21_code 214 = .ok (.goto (-136), 3) := by decide +kernel
theorem d_Mod_set_217 : decode prog_14_method_21_code 217 = .ok (.aload_n 0, 1) := by decide +kernel
theorem d_Mod_set_218 : decode prog_14_method_21_code 218 = .ok (.dup, 1) := by decide +kernel
theorem d_Mod_set_219 : decode prog_14_method_21_code 219 = .ok (.getfield 176, 3) := by decide +kernel
theorem d_Mod_set_222 : decode prog_14_method_21_code 222 = .ok (.iconst 1, 1) := by decide +kernel
theorem d_Mod_set_223 : decode prog_14_method_21_code 223 = .ok (.iadd, 1) := by decide +kernel
theorem d_Mod_set_224 : decode prog_14_method_21_code 224 = .ok (.putfield 176, 3) := by decide +kernel
theorem d_Mod_set_227 : decode prog_14_method_21_code 227 = .ok (.iload_n 3, 1) := by decide +kernel
theorem d_Mod_set_228 : decode prog_14_method_21_code 228 = .ok (.ifCond .ne 4, 3) := by decide +kernel
theorem d_Mod_set_231 : decode prog_14_method_21_code 231 = .ok (.return_, 1) := by decide +kernel
theorem d_Mod_set_232 : decode prog_14_method_21_code 232 = .ok (.aload_n 0, 1) := by decide +kernel
theorem d_Mod_set_233 : decode prog_14_method_21_code 233 = .ok (.getfield 108, 3) := by decide +kernel
theorem d_Mod_set_236 : decode prog_14_method_21_code 236 = .ok (.iload_n 2, 1) := by decide +kernel
theorem d_Mod_set_237 : decode prog_14_method_21_code 237 = .ok (.aload_n 0, 1) := by decide +kernel
theorem d_Mod_set_238 : decode prog_14_method_21_code 238 = .ok (.getfield 108, 3) := by decide +kernel
theorem d_Mod_set_241 : decode prog_14_method_21_code 241 = .ok (.iload_n 2, 1) := by decide +kernel
theorem d_Mod_set_242 : decode prog_14_method_21_code 242 = .ok (.laload, 1) := by decide +kernel
theorem d_Mod_set_243 : decode prog_14_method_21_code 243 = .ok (.ldc2_w 220, 3) := by decide +kernel
theorem d_Mod_set_246 : decode prog_14_method_21_code 246 = .ok (.lxor, 1) := by decide +kernel
theorem d_Mod_set_247 : decode prog_14_method_21_code 247 = .ok (.lastore, 1) := by decide +kernel
theorem d_Mod_set_248 : decode prog_14_method_21_code 248 = .ok (.aload_n 0, 1) := by decide +kernel
theorem d_Mod_set_249 : decode prog_14_method_21_code 249 = .ok (.getfield 112, 3) := by decide +kernel
theorem d_Mod_set_252 : decode prog_14_method_21_code 252 = .ok (.iload_n 2, 1) := by decide +kernel
theorem d_Mod_set_253 : decode prog_14_method_21_code 253 = .ok (.aload_n 0, 1) := by decide +kernel
theorem d_Mod_set_254 : decode prog_14_method_21_code 254 = .ok (.getfield 112, 3) := by decide +kernel
theorem d_Mod_set_257 : decode prog_14_method_21_code 257 = .ok (.iload_n 2, 1) := by decide +kernel
theorem d_Mod_set_258 : decode prog_14_method_21_code 258 = .ok (.laload, 1) := by decide +kernel
theorem d_Mod_set_259 : decode prog_14_method_21_code 259 = .ok (.ldc2_w 220, 3) := by decide +kernel
theorem d_Mod_set_262 : decode prog_14_method_21_code 262 = .ok (.lxor, 1) := by decide +kernel
theorem d_Mod_set_263 : decode prog_14_method_21_code 263 = .ok (.lastore, 1) := by decide +kernel
theorem d_Mod_set_264 : decode prog_14_method_21_code 264 = .ok (.return_, 1) := by decide +kernel
theorem d_Mod_star_0 : decode prog_14_method_22_code 0 = .ok (.aload_n 0, 1) := by decide +kernel
theorem d_Mod_star_1 : decode prog_14_method_22_code 1 = .ok (.getfield 197, 3) := by decide +kernel
theorem d_Mod_star_4 : decode prog_14_method_22_code 4 = .ok (.ifCond .eq 11, 3) := by decide +kernel
theorem d_Mod_star_7 : decode prog_14_method_22_code 7 = .ok (.aload_n 0, 1) := by decide +kernel
theorem d_Mod_star_8 : decode prog_14_method_22_code 8 = .ok (.getfield 222, 3) := by decide +kernel
theorem d_Mod_star_11 : decode prog_14_method_22_code 11 = .ok (.iconst 2, 1) := by decide +kernel
theorem d_Mod_star_12 : decode prog_14_method_22_code 12 = .ok (.if_icmp .ne 12, 3) := by decide +kernel
theorem d_Mod_star_15 : decode prog_14_method_22_code 15 = .ok (.aload_n 0, 1) := by decide +kernel
theorem d_Mod_star_16 : decode prog_14_method_22_code 16 = .ok (.aload_n 0, 1) := by decide +kernel
theorem d_Mod_star_17 : decode prog_14_method_22_code 17 = .ok (.getfield 176, 3) := by decide +kernel
theorem d_Mod_star_20 : decode prog_14_method_22_code 20 = .ok (.invokevirtual 187, 3) := by decide +kernel
theorem d_Mod_star_23 : decode prog_14_method_22_code 23 = .ok (.return_, 1) := by decide +kernel
theorem d_Mod_star_24 : decode prog_14_method_22_code 24 = .ok (.aload_n 0, 1) := by decide +kernel
theorem d_Mod_star_25 : decode prog_14_method_22_code 25 = .ok (.dup, 1) := by decide +kernel
theorem d_Mod_star_26 : decode prog_14_method_22_code 26 = .ok (.getfield 222, 3) := by decide +kernel
theorem d_Mod_star_29 : decode prog_14_method_22_code 29 = .ok (.iconst 1, 1) := by decide +kernel
theorem d_Mod_star_30 : decode prog_14_method_22_code 30 = .ok (.iadd, 1) := by decide +kernel
theorem d_Mod_star_31 : decode prog_14_method_22_code 31 = .ok (.putfield 222, 3) := by decide +kernel
theorem d_Mod_star_34 : decode prog_14_method_22_code 34 = .ok (.aload_n 0, 1) := by decide +kernel
theorem d_Mod_star_35 : decode prog_14_method_22_code 35 = .ok (.iconst 0, 1) := by decide +kernel
theorem d_Mod_star_36 : decode prog_14_method_22_code 36 = .ok (.putfield 197, 3) := by decide +kernel
theorem d_Mod_star_39 : decode prog_14_method_22_code 39 = .ok (.aload_n 0, 1) := by decide +kernel
theorem d_Mod_star_40 : decode prog_14_method_22_code 40 = .ok (.getfield 99, 3) := by decide +kernel
theorem d_Mod_star_43 : decode prog_14_method_22_code 43 = .ok (.sipush 260, 3) := by decide +kernel
theorem d_Mod_star_46 : decode prog_14_method_22_code 46 = .ok (.aload_n 0, 1) := by decide +kernel
theorem d_Mod_star_47 : decode prog_14_method_22_code 47 = .ok (.getfield 191, 3) := by decide +kernel
theorem d_Mod_star_50 : decode prog_14_method_22_code 50 = .ok (.imul, 1) := by decide +kernel
theorem d_Mod_star_51 : decode prog_14_method_22_code 51 = .ok (.aload_n 0, 1) := by decide +kernel
theorem d_Mod_star_52 : decode prog_14_method_22_code 52 = .ok (.getfield 75, 3) := by decide +kernel
theorem d_Mod_star_55 : decode prog_14_method_22_code 55 = .ok (.aload_n 0, 1) := by decide +kernel
theorem d_Mod_star_56 : decode prog_14_method_22_code 56 = .ok (.getfield 191, 3) := by decide +kernel
theorem d_Mod_star_59 : decode prog_14_method_22_code 59 = .ok (.iaload, 1) := by decide +kernel
theorem d_Mod_star_60 : decode prog_14_method_22_code 60 = .ok (.iadd, 1) := by decide +kernel
theorem d_Mod_star_61 : decode prog_14_method_22_code 61 = .ok (.iconst 1, 1) := by decide +kernel
theorem d_Mod_star_62 : decode prog_14_method_22_code 62 = .ok (.isub, 1) := by decide +kernel
theorem d_Mod_star_63 : decode prog_14_method_22_code 63 = .ok (.iconst 1, 1) := by decide +kernel
theorem d_Mod_star_64 : decode prog_14_method_22_code 64 = .ok (.bastore, 1) := by decide +kernel
theorem d_Mod_star_65 : decode prog_14_method_22_code 65 = .ok (.aload_n 0, 1) := by decide +kernel
theorem d_Mod_star_66 : decode prog_14_method_22_code 66 = .ok (.dup, 1) := by decide +kernel
theorem d_Mod_star_67 : decode prog_14_method_22_code 67 = .ok (.getfield 176, 3) := by decide +kernel
theorem d_Mod_star_70 : decode prog_14_method_22_code 70 = .ok (.iconst 1, 1) := by decide +kernel
theorem d_Mod_star_71 : decode prog_14_method_22_code 71 = .ok (.iadd, 1) := by decide +kernel
theorem d_Mod_star_72 : decode prog_14_method_22_code 72 = .ok (.putfield 176, 3) := by decide +kernel
theorem d_Mod_star_75 : decode prog_14_method_22_code 75 = .ok (.return_, 1) := by decide +kernel
theorem d_Mod_readPattern_0 : decode prog_14_method_23_code 0 = .ok (.sipush 130, 3) := by decide +kernel
theorem d_Mod_readPattern_3 : decode prog_14_method_23_code 3 = .ok (.aload_n 0, 1) := by decide +kernel
theorem d_Mod_readPattern_4 : decode prog_14_method_23_code 4 = .ok (.getfield 191, 3) := by decide +kernel
theorem d_Mod_readPattern_7 : decode prog_14_method_23_code 7 = .ok (.imul, 1) := by decide +kernel
theorem d_Mod_readPattern_8 : decode prog_14_method_23_code 8 = .ok (.aload_n 0, 1) := by decide +kernel
theorem d_Mod_readPattern_9 : decode prog_14_method_23_code 9 = .ok (.getfield 72, 3) := by decide +kernel
theorem d_Mod_readPattern_12 : decode prog_14_method_23_code 12 = .ok (.aload_n 0, 1) := by decide +kernel
theorem d_Mod_readPattern_13 : decode prog_14_method_23_code 13 = .ok (.getfield 191, 3) := by decide +kernel
theorem d_Mod_readPattern_16 : decode prog_14_method_23_code 16 = .ok (.iaload, 1) := by decide +kernel
theorem d_Mod_readPattern_17 : decode prog_14_method_23_code 17 = .ok (.iadd, 1) := by decide +kernel
theorem d_Mod_readPattern_18 : decode prog_14_method_23_code 18 = .ok (.istore_n 1, 1) := by decide +kernel
theorem d_Mod_readPattern_19 : decode prog_14_method_23_code 19 = .ok (.aload_n 0, 1) := by decide +kernel
theorem d_Mod_readPattern_20 : decode prog_14_method_23_code 20 = .ok (.getfield 81, 3) := by decide +kernel
theorem d_Mod_readPattern_23 : decode prog_14_method_23_code 23 = .ok (.iload_n 1, 1) := by decide +kernel
theorem d_Mod_readPattern_24 : decode prog_14_method_23_code 24 = .ok (.sipush 260, 3) := by decide +kernel
theorem d_Mod_readPattern_27 : decode prog_14_method_23_code 27 = .ok (.aload_n 0, 1) := by decide +kernel
theorem d_Mod_readPattern_28 : decode prog_14_method_23_code 28 = .ok (.getfield 191, 3) := by decide +kernel
theorem d_Mod_readPattern_31 : decode prog_14_method_23_code 31 = .ok (.imul, 1) := by decide +kernel
theorem d_Mod_readPattern_32 : decode prog_14_method_23_code 32 = .ok (.aload_n 0, 1) := by decide +kernel
theorem d_Mod_readPattern_33 : decode prog_14_method_23_code 33 = .ok (.getfield 75, 3) := by decide +kernel
theorem d_Mod_readPattern_36 : decode prog_14_method_23_code 36 = .ok (.aload_n 0, 1) := by decide +kernel
theorem d_Mod_readPattern_37 : decode prog_14_method_23_code 37 = .ok (.getfield 191, 3) := by decide +kernel
theorem d_Mod_readPattern_40 : decode prog_14_method_23_code 40 = .ok (.iaload, 1) := by decide +kernel
theorem d_Mod_readPattern_41 : decode prog_14_method_23_code 41 = .ok (.iadd, 1) := by decide +kernel
theorem d_Mod_readPattern_42 : decode prog_14_method_23_code 42 = .ok (.iastore, 1) := by decide +kernel
theorem d_Mod_readPattern_43 : decode prog_14_method_23_code 43 = .ok (.aload_n 0, 1) := by decide +kernel
theorem d_Mod_readPattern_44 : decode prog_14_method_23_code 44 = .ok (.getfield 102, 3) := by decide +kernel
theorem d_Mod_readPattern_47 : decode prog_14_method_23_code 47 = .ok (.iload_n 1, 1) := by decide +kernel
theorem d_Mod_readPattern_48 : decode prog_14_method_23_code 48 = .ok (.aload_n 0, 1) := by decide +kernel
theorem d_Mod_readPattern_49 : decode prog_14_method_23_code 49 = .ok (.invokevirtual 183, 3) := by decide +kernel
theorem d_Mod_readPattern_52 : decode prog_14_method_23_code 52 = .ok (.bipush 94, 2) := by decide +kernel
theorem d_Mod_readPattern_54 : decode prog_14_method_23_code 54 = .ok (.if_icmp .ne 7, 3) := by decide +kernel
theorem d_Mod_readPattern_57 : decode prog_14_method_23_code 57 = .ok (.iconst 1, 1) := by decide +kernel
theorem d_Mod_readPattern_58 : decode prog_14_method_23_code 58 = .ok (.goto 4, 3) := by decide +kernel
theorem d_Mod_readPattern_61 : decode prog_14_method_23_code 61 = .ok (.iconst 0, 1) := by decide +kernel
theorem d_Mod_readPattern_62 : decode prog_14_method_23_code 62 = .ok (.bastore, 1) := by decide +kernel
theorem d_Mod_readPattern_63 : decode prog_14_method_23_code 63 = .ok (.aload_n 0, 1) := by decide +kernel
theorem d_Mod_readPattern_64 : decode prog_14_method_23_code 64 = .ok (.getfield 105, 3) := by decide +kernel
theorem d_Mod_readPattern_67 : decode prog_14_method_23_code 67 = .ok (.iload_n 1, 1) := by decide +kernel
theorem d_Mod_readPattern_68 : decode prog_14_method_23_code 68 = .ok (.iconst 0, 1) := by decide +kernel
theorem d_Mod_readPattern_69 : decode prog_14_method_23_code 69 = .ok (.bastore, 1) := by decide +kernel
theorem d_Mod_readPattern_70 : decode prog_14_method_23_code 70 = .ok (.aload_n 0, 1) := by decide +kernel
theorem d_Mod_readPattern_71 : decode prog_14_method_23_code 71 = .ok (.getfield 102, 3) := by decide +kernel
theorem d_Mod_readPattern_74 : decode prog_14_method_23_code 74 = .ok (.iload_n 1, 1) := by decide +kernel
theorem d_Mod_readPattern_75 : decode prog_14_method_23_code 75 = .ok (.baload, 1) := by decide +kernel
theorem d_Mod_readPattern_76 : decode prog_14_method_23_code 76 = .ok (.ifCond .eq 13, 3) := by decide +kernel
theorem d_Mod_readPattern_79 : decode prog_14_method_23_code 79 = .ok (.aload_n 0, 1) := by decide +kernel
theorem d_Mod_readPattern_80 : decode prog_14_method_23_code 80 = .ok (.dup, 1) := by decide +kernel
theorem d_Mod_readPattern_81 : decode prog_14_method_23_code 81 = .ok (.getfield 176, 3) := by decide +kernel
theorem d_Mod_readPattern_84 : decode prog_14_method_23_code 84 = .ok (.iconst 1, 1) := by decide +kernel
theorem d_Mod_readPattern_85 : decode prog_14_method_23_code 85 = .ok (.iadd, 1) := by decide +kernel
theorem d_Mod_readPattern_86 : decode prog_14_method_23_code 86 = .ok (.putfield 176, 3) := by decide +kernel
theorem d_Mod_readPattern_89 : decode prog_14_method_23_code 89 = .ok (.aload_n 0, 1) := by decide +kernel
theorem d_Mod_readPattern_90 : decode prog_14_method_23_code 90 = .ok (.iconst 0, 1) := by decide +kernel
theorem d_Mod_readPattern_91 : decode prog_14_method_23_code 91 = .ok (.putfield 206, 3) := by decide +kernel
theorem d_Mod_readPattern_94 : decode prog_14_method_23_code 94 = .ok (.aload_n 0, 1) := by decide +kernel
theorem d_Mod_readPattern_95 : decode prog_14_method_23_code 95 = .ok (.iconst 0, 1) := by decide +kernel
theorem d_Mod_readPattern_96 : decode prog_14_method_23_code 96 = .ok (.putfield 222, 3) := by decide +kernel
theorem d_Mod_readPattern_99 : decode prog_14_method_23_code 99 = .ok (.aload_n 0, 1) := by decide +kernel
theorem d_Mod_readPattern_100 : decode prog_14_method_23_code 100 = .ok (.iconst 0, 1) := by decide +kernel
theorem d_Mod_readPattern_101 : decode prog_14_method_23_code 101 = .ok (.putfield 194, 3) := by decide +kernel
theorem d_Mod_readPattern_104 : decode prog_14_method_23_code 104 = .ok (.aload_n 0, 1) := by decide +kernel
theorem d_Mod_readPattern_105 : decode prog_14_method_23_code 105 = .ok (.iconst 0, 1) := by decide +kernel
theorem d_Mod_readPattern_106 : decode prog_14_method_23_code 106 = .ok (.putfield 203, 3) := by decide +kernel
theorem d_Mod_readPattern_109 : decode prog_14_method_23_code 109 = .ok (.aload_n 0, 1) := by decide +kernel
theorem d_Mod_readPattern_110 : decode prog_14_method_23_code 110 = .ok (.iconst 0, 1) := by decide +kernel
theorem d_Mod_readPattern_111 : decode prog_14_method_23_code 111 = .ok (.putfield 197, 3) := by decide +kernel
theorem d_Mod_readPattern_114 : decode prog_14_method_23_code 114 = .ok (.aload_n 0, 1) := by decide +kernel
theorem d_Mod_readPattern_115 : decode prog_14_method_23_code 115 = .ok (.getfield 179, 3) := by decide +kernel
theorem d_Mod_readPattern_118 : decode prog_14_method_23_code 118 = .ok (.ifCond .ne 199, 3) := by decide +kernel
theorem d_Mod_readPattern_121 : decode prog_14_method_23_code 121 = .ok (.aload_n 0, 1) := by decide +kernel
theorem d_Mod_readPattern_122 : decode prog_14_method_23_code 122 = .ok (.invokevirtual 183, 3) := by decide +kernel
theorem d_Mod_readPattern_125 : decode prog_14_method_23_code 125 = .ok (.bipush 47, 2) := by decide +kernel
theorem d_Mod_readPattern_127 : decode prog_14_method_23_code 127 = .ok (.if_icmp .eq 190, 3) := by decide +kernel
theorem d_Mod_readPattern_130 : decode prog_14_method_23_code 130 = .ok (.aload_n 0, 1) := by decide +kernel
theorem d_Mod_readPattern_131 : decode prog_14_method_23_code 131 = .ok (.getfield 105, 3) := by decide +kernel
theorem d_Mod_readPattern_134 : decode prog_14_method_23_code 134 = .ok (.iload_n 1, 1) := by decide +kernel
theorem d_Mod_readPattern_135 : decode prog_14_method_23_code 135 = .ok (.baload, 1) := by decide +kernel
theorem d_Mod_readPattern_136 : decode prog_14_method_23_code 136 = .ok (.ifCond .ne 181, 3) := by decide +kernel
theorem d_Mod_readPattern_139 : decode prog_14_method_23_code 139 = .ok (.aload_n 0, 1) := by decide +kernel
theorem d_Mod_readPattern_140 : decode prog_14_method_23_code 140 = .ok (.invokevirtual 183, 3) := by decide +kernel
theorem d_Mod_readPattern_143 : decode prog_14_method_23_code 143 = .ok (.istore_n 2, 1) := by decide +kernel
theorem d_Mod_readPattern_144 : decode prog_14_method_23_code 144 = .ok (.iload_n 2, 1) := by decide +kernel
theorem d_Mod_readPattern_145 : decode prog_14_method_23_code 145 = .ok (.iconst (-1), 1) := by decide +kernel
theorem d_Mod_readPattern_146 : decode prog_14_method_23_code 146 = .ok (.if_icmp .ne 14, 3) := by decide +kernel
theorem d_Mod_readPattern_149 : decode prog_14_method_23_code 149 = .ok (.aload_n 0, 1) := by decide +kernel
theorem d_Mod_readPattern_150 : decode prog_14_method_23_code 150 = .ok (.aload_n 0, 1) := by decide +kernel
theorem d_Mod_readPattern_151 : decode prog_14_method_23_code 151 = .ok (.getfield 166, 3) := by decide +kernel
theorem d_Mod_readPattern_154 : decode prog_14_method_23_code 154 = .ok (.invokevirtual 187, 3) := by decide +kernel
theorem d_Mod_readPattern_157 : decode prog_14_method_23_code 157 = .ok (.goto 157, 3) := by decide +kernel
theorem d_Mod_readPattern_160 : decode prog_14_method_23_code 160 = .ok (.iload_n 2, 1) := by decide +kernel
theorem d_Mod_readPattern_161 : decode prog_14_method_23_code 161 = .ok (.bipush 10, 2) := by decide +kernel
theorem d_Mod_readPattern_163 : decode prog_14_method_23_code 163 = .ok (.if_icmp .ne 14, 3) := by decide +kernel
theorem d_Mod_readPattern_166 : decode prog_14_method_23_code 166 = .ok (.aload_n 0, 1) := by decide +kernel
theorem d_Mod_readPattern_167 : decode prog_14_method_23_code 167 = .ok (.aload_n 0, 1) := by decide +kernel
theorem d_Mod_readPattern_168 : decode prog_14_method_23_code 168 = .ok (.getfield 176, 3) := by decide +kernel
theorem d_Mod_readPattern_171 : decode prog_14_method_23_code 171 = .ok (.invokevirtual 187, 3) := by decide +kernel
theorem d_Mod_readPattern_174 : decode prog_14_method_23_code 174 = .ok (.goto 140, 3) := by decide +kernel
theorem d_Mod_readPattern_177 : decode prog_14_method_23_code 177 = .ok (.iload_n 2, 1) := by decide +kernel
theorem d_Mod_readPattern_178 : decode prog_14_method_23_code 178 = .ok (.bipush 36, 2) := by decide +kernel
theorem d_Mod_readPattern_180 : decode prog_14_method_23_code 180 = .ok (.if_icmp .ne 22, 3) := by decide +kernel
theorem d_Mod_readPattern_183 : decode prog_14_method_23_code 183 = .ok (.aload_n 0, 1) := by decide +kernel
theorem d_Mod_readPattern_184 : decode prog_14_method_23_code 184 = .ok (.invokevirtual 200, 3) := by decide +kernel
theorem d_Mod_readPattern_187 : decode prog_14_method_23_code 187 = .ok (.iconst (-1), 1) := by decide +kernel
theorem d_Mod_readPattern_188 : decode prog_14_method_23_code 188 = .ok (.if_icmp .ne 14, 3) := by decide +kernel
theorem d_Mod_readPattern_191 : decode prog_14_method_23_code 191 = .ok (.aload_n 0, 1) := by decide +kernel
theorem d_Mod_readPattern_192 : decode prog_14_method_23_code 192 = .ok (.aload_n 0, 1) := by decide +kernel
theorem d_Mod_readPattern_193 : decode prog_14_method_23_code 193 = .ok (.getfield 166, 3) := by decide +kernel
theorem d_Mod_readPattern_196 : decode prog_14_method_23_code 196 = .ok (.invokevirtual 187, 3) := by decide +kernel
theorem d_Mod_readPattern_199 : decode prog_14_method_23_code 199 = .ok (.goto 115, 3) := by decide +kernel
theorem d_Mod_readPattern_202 : decode prog_14_method_23_code 202 = .ok (.iload_n 2, 1) := by decide +kernel
theorem d_Mod_readPattern_203 : decode prog_14_method_23_code 203 = .ok (.bipush 36, 2) := by decide +kernel
theorem d_Mod_readPattern_205 : decode prog_14_method_23_code 205 = .ok (.if_icmp .ne 32, 3) := by decide +kernel
theorem d_Mod_readPattern_208 : decode prog_14_method_23_code 208 = .ok (.aload_n 0, 1) := by decide +kernel
theorem d_Mod_readPattern_209 : decode prog_14_method_23_code 209 = .ok (.invokevirtual 200, 3) := by decide +kernel
theorem d_Mod_readPattern_212 : decode prog_14_method_23_code 212 = .ok (.bipush 47, 2) := by decide +kernel
theorem d_Mod_readPattern_214 : decode prog_14_method_23_code 214 = .ok (.if_icmp .ne 23, 3) := by decide +kernel
theorem d_Mod_readPattern_217 : decode prog_14_method_23_code 217 = .ok (.aload_n 0, 1) := by decide +kernel
theorem d_Mod_readPattern_218 : decode prog_14_method_23_code 218 = .ok (.getfield 105, 3) := by decide +kernel
theorem d_Mod_readPattern_221 : decode prog_14_method_23_code 221 = .ok (.iload_n 1, 1) := by decide +kernel
theorem d_Mod_readPattern_222 : decode prog_14_method_23_code 222 = .ok (.iconst 1, 1) := by decide +kernel
theorem d_Mod_readPattern_223 : decode prog_14_method_23_code 223 = .ok (.bastore, 1) := by decide +kernel
theorem d_Mod_readPattern_224 : decode prog_14_method_23_code 224 = .ok (.aload_n 0, 1) := by decide +kernel
theorem d_Mod_readPattern_225 : decode prog_14_method_23_code 225 = .ok (.dup, 1) := by decide +kernel
theorem d_Mod_readPattern_226 : decode prog_14_method_23_code 226 = .ok (.getfield 176, 3) := by decide +kernel
theorem d_Mod_readPattern_229 : decode prog_14_method_23_code 229 = .ok (.iconst 1, 1) := by decide +kernel
theorem d_Mod_readPattern_230 : decode prog_14_method_23_code 230 = .ok (.iadd, 1) := by decide +kernel
theorem d_Mod_readPattern_231 : decode prog_14_method_23_code 231 = .ok (.putfield 176, 3) := by decide +kernel
theorem d_Mod_readPattern_234 : decode prog_14_method_23_code 234 = .ok (.goto 80, 3) := by decide +kernel
theorem d_Mod_readPattern_237 : decode prog_14_method_23_code 237 = .ok (.iload_n 2, 1) := by decide +kernel
theorem d_Mod_readPattern_238 : decode prog_14_method_23_code 238 = .ok (.bipush 92, 2) := by decide +kernel
theorem d_Mod_readPattern_240 : decode prog_14_method_23_code 240 = .ok (.if_icmp .ne 14, 3) := by decide +kernel
theorem d_Mod_readPattern_243 : decode prog_14_method_23_code 243 = .ok (.aload_n 0, 1) := by decide +kernel
theorem d_Mod_readPattern_244 : decode prog_14_method_23_code 244 = .ok (.aload_n 0, 1) := by decide +kernel
theorem d_Mod_readPattern_245 : decode prog_14_method_23_code 245 = .ok (.getfield 176, 3) := by decide +kernel
theorem d_Mod_readPattern_248 : decode prog_14_method_23_code 248 = .ok (.invokevirtual 225, 3) := by decide +kernel
theorem d_Mod_readPattern_251 : decode prog_14_method_23_code 251 = .ok (.goto 63, 3) := by decide +kernel
theorem d_Mod_readPattern_254 : decode prog_14_method_23_code 254 = .ok (.iload_n 2, 1) := by decide +kernel
theorem d_Mod_readPattern_255 : decode prog_14_method_23_code 255 = .ok (.bipush 91, 2) := by decide +kernel
theorem d_Mod_readPattern_257 : decode prog_14_method_23_code 257 = .ok (.if_icmp .ne 14, 3) := by decide +kernel
theorem d_Mod_readPattern_260 : decode prog_14_method_23_code 260 = .ok (.aload_n 0, 1) := by decide +kernel
theorem d_Mod_readPattern_261 : decode prog_14_method_23_code 261 = .ok (.aload_n 0, 1) := by decide +kernel
theorem d_Mod_readPattern_262 : decode prog_14_method_23_code 262 = .ok (.getfield 176, 3) := by decide +kernel
theorem d_Mod_readPattern_265 : decode prog_14_method_23_code 265 = .ok (.invokevirtual 228, 3) := by decide +kernel
theorem d_Mod_readPattern_268 : decode prog_14_method_23_code 268 = .ok (.goto 46, 3) := by decide +kernel
theorem d_Mod_readPattern_271 : decode prog_14_method_23_code 271 = .ok (.iload_n 2, 1) := by decide +kernel
theorem d_Mod_readPattern_272 : decode prog_14_method_23_code 272 = .ok (.bipush 42, 2) := by decide +kernel
theorem d_Mod_readPattern_274 : decode prog_14_method_23_code 274 = .ok (.if_icmp .ne 10, 3) := by decide +kernel
theorem d_Mod_readPattern_277 : decode prog_14_method_23_code 277 = .ok (.aload_n 0, 1) := by decide +kernel
theorem d_Mod_readPattern_278 : decode prog_14_method_23_code 278 = .ok (.invokevirtual 231, 3) := by decide +kernel
theorem d_Mod_readPattern_281 : decode prog_14_method_23_code 281 = .ok (.goto 33, 3) := by decide +kernel
theorem d_Mod_readPattern_284 : decode prog_14_method_23_code 284 = .ok (.aload_n 0, 1) := by decide +kernel
theorem d_Mod_readPattern_285 : decode prog_14_method_23_code 285 = .ok (.iload_n 2, 1) := by decide +kernel
theorem d_Mod_readPattern_286 : decode prog_14_method_23_code 286 = .ok (.bipush 46, 2) := by decide +kernel
theorem d_Mod_readPattern_288 : decode prog_14_method_23_code 288 = .ok (.if_icmp .ne 7, 3) := by decide +kernel
theorem d_Mod_readPattern_291 : decode prog_14_method_23_code 291 = .ok (.iconst 1, 1) := by decide +kernel
theorem d_Mod_readPattern_292 : decode prog_14_method_23_code 292 = .ok (.goto 4, 3) := by decide +kernel
theorem d_Mod_readPattern_295 : decode prog_14_method_23_code 295 = .ok (.iconst 0, 1) := by decide +kernel
theorem d_Mod_readPattern_296 : decode prog_14_method_23_code 296 = .ok (.iload_n 2, 1) := by decide +kernel
theorem d_Mod_readPattern_297 : decode prog_14_method_23_code 297 = .ok (.aload_n 0, 1) := by decide +kernel
theorem d_Mod_readPattern_298 : decode prog_14_method_23_code 298 = .ok (.getfield 176, 3) := by decide +kernel
theorem d_Mod_readPattern_301 : decode prog_14_method_23_code 301 = .ok (.invokevirtual 209, 3) := by decide +kernel
theorem d_Mod_readPattern_304 : decode prog_14_method_23_code 304 = .ok (.aload_n 0, 1) := by decide +kernel
theorem d_Mod_readPattern_305 : decode prog_14_method_23_code 305 = .ok (.dup, 1) := by decide +kernel
theorem d_Mod_readPattern_306 : decode prog_14_method_23_code 306 = .ok (.getfield 176, 3) := by decide +kernel
theorem d_Mod_readPattern_309 : decode prog_14_method_23_code 309 = .ok (.iconst 1, 1) := by decide +kernel
theorem d_Mod_readPattern_310 : decode prog_14_method_23_code 310 = .ok (.iadd, 1) := by decide +kernel
theorem d_Mod_readPattern_311 : decode prog_14_method_23_code 311 = .ok (.putfield 176, 3) := by decide +kernel
theorem d_Mod_readPattern_314 : decode prog_14_method_23_code 314 = .ok (.goto (-200), 3) := by decide +kernel
theorem d_Mod_readPattern_317 : decode prog_14_method_23_code 317 = .ok (.aload_n 0, 1) := by decide +kernel
theorem d_Mod_readPattern_318 : decode prog_14_method_23_code 318 = .ok (.getfield 179, 3) := by decide +kernel
theorem d_Mod_readPattern_321 : decode prog_14_method_23_code 321 = .ok (.ifCond .ne 18, 3) := by decide +kernel
theorem d_Mod_readPattern_324 : decode prog_14_method_23_code 324 = .ok (.aload_n 0, 1) := by decide +kernel
theorem d_Mod_readPattern_325 : decode prog_14_method_23_code 325 = .ok (.getfield 203, 3) := by decide +kernel
theorem d_Mod_readPattern_328 : decode prog_14_method_23_code 328 = .ok (.ifCond .eq 11, 3) := by decide +kernel
theorem d_Mod_readPattern_331 : decode prog_14_method_23_code 331 = .ok (.aload_n 0, 1) := by decide +kernel
theorem d_Mod_readPattern_332 : decode prog_14_method_23_code 332 = .ok (.aload_n 0, 1) := by decide +kernel
theorem d_Mod_readPattern_333 : decode prog_14_method_23_code 333 = .ok (.getfield 176, 3) := by decide +kernel
theorem d_Mod_readPattern_336 : decode prog_14_method_23_code 336 = .ok (.invokevirtual 187, 3) := by decide +kernel
theorem d_Mod_readPattern_339 : decode prog_14_method_23_code 339 = .ok (.aload_n 0, 1) := by decide +kernel
theorem d_Mod_readPattern_340 : decode prog_14_method_23_code 340 = .ok (.dup, 1) := by decide +kernel
theorem d_Mod_readPattern_341 : decode prog_14_method_23_code 341 = .ok (.getfield 176, 3) := by decide +kernel
theorem d_Mod_readPattern_344 : decode prog_14_method_23_code 344 = .ok (.iconst 1, 1) := by decide +kernel
theorem d_Mod_readPattern_345 : decode prog_14_method_23_code 345 = .ok (.iadd, 1) := by decide +kernel
theorem d_Mod_readPattern_346 : decode prog_14_method_23_code 346 = .ok (.putfield 176, 3) := by decide +kernel
theorem d_Mod_readPattern_349 : decode prog_14_method_23_code 349 = .ok (.aload_n 0, 1) := by decide +kernel
theorem d_Mod_readPattern_350 : decode prog_14_method_23_code 350 = .ok (.getfield 84, 3) := by decide +kernel
theorem d_Mod_readPattern_353 : decode prog_14_method_23_code 353 = .ok (.iload_n 1, 1) := by decide +kernel
theorem d_Mod_readPattern_354 : decode prog_14_method_23_code 354 = .ok (.sipush 260, 3) := by decide +kernel
theorem d_Mod_readPattern_357 : decode prog_14_method_23_code 357 = .ok (.aload_n 0, 1) := by decide +kernel
theorem d_Mod_readPattern_358 : decode prog_14_method_23_code 358 = .ok (.getfield 191, 3) := by decide +kernel
theorem d_Mod_readPattern_361 : decode prog_14_method_23_code 361 = .ok (.imul, 1) := by decide +kernel
theorem d_Mod_readPattern_362 : decode prog_14_method_23_code 362 = .ok (.aload_n 0, 1) := by decide +kernel
theorem d_Mod_readPattern_363 : decode prog_14_method_23_code 363 = .ok (.getfield 75, 3) := by decide +kernel
theorem d_Mod_readPattern_366 : decode prog_14_method_23_code 366 = .ok (.aload_n 0, 1) := by decide +kernel
theorem d_Mod_readPattern_367 : decode prog_14_method_23_code 367 = .ok (.getfield 191, 3) := by decide +kernel
theorem d_Mod_readPattern_370 : decode prog_14_method_23_code 370 = .ok (.iaload, 1) := by decide +kernel
theorem d_Mod_readPattern_371 : decode prog_14_method_23_code 371 = .ok (.iadd, 1) := by decide +kernel
theorem d_Mod_readPattern_372 : decode prog_14_method_23_code 372 = .ok (.iastore, 1) := by decide +kernel
theorem d_Mod_readPattern_373 : decode prog_14_method_23_code 373 = .ok (.aload_n 0, 1) := by decide +kernel
theorem d_Mod_readPattern_374 : decode prog_14_method_23_code 374 = .ok (.getfield 87, 3) := by decide +kernel
theorem d_Mod_readPattern_377 : decode prog_14_method_23_code 377 = .ok (.iload_n 1, 1) := by decide +kernel
theorem d_Mod_readPattern_378 : decode prog_14_method_23_code 378 = .ok (.aload_n 0, 1) := by decide +kernel
theorem d_Mod_readPattern_379 : decode prog_14_method_23_code 379 = .ok (.getfield 206, 3) := by decide +kernel
theorem d_Mod_readPattern_382 : decode prog_14_method_23_code 382 = .ok (.iastore, 1) := by decide +kernel
theorem d_Mod_readPattern_383 : decode prog_14_method_23_code 383 = .ok (.aload_n 0, 1) := by decide +kernel
theorem d_Mod_readPattern_384 : decode prog_14_method_23_code 384 = .ok (.getfield 72, 3) := by decide +kernel
theorem d_Mod_readPattern_387 : decode prog_14_method_23_code 387 = .ok (.aload_n 0, 1) := by decide +kernel
theorem d_Mod_readPattern_388 : decode prog_14_method_23_code 388 = .ok (.getfield 191, 3) := by decide +kernel
theorem d_Mod_readPattern_391 : decode prog_14_method_23_code 391 = .ok (.dup2, 1) := by decide +kernel
theorem d_Mod_readPattern_392 : decode prog_14_method_23_code 392 = .ok (.iaload, 1) := by decide +kernel
theorem d_Mod_readPattern_393 : decode prog_14_method_23_code 393 = .ok (.iconst 1, 1) := by decide +kernel
theorem d_Mod_readPattern_394 : decode prog_14_method_23_code 394 = .ok (.iadd, 1) := by decide +kernel
theorem d_Mod_readPattern_395 : decode prog_14_method_23_code 395 = .ok (.iastore, 1) := by decide +kernel
theorem d_Mod_readPattern_396 : decode prog_14_method_23_code 396 = .ok (.iload_n 1, 1) := by decide +kernel
theorem d_Mod_readPattern_397 : decode prog_14_method_23_code 397 = .ok (.ireturn, 1) := by decide +kernel
theorem d_Mod_address_0 : decode prog_14_method_24_code 0 = .ok (.aload_n 0, 1) := by decide +kernel
theorem d_Mod_address_1 : decode prog_14_method_24_code 1 = .ok (.invokevirtual 183, 3) := by decide +kernel
theorem d_Mod_address_4 : decode prog_14_method_24_code 4 = .ok (.istore_n 1, 1) := by decide +kernel
theorem d_Mod_address_5 : decode prog_14_method_24_code 5 = .ok (.aload_n 0, 1) := by decide +kernel
theorem d_Mod_address_6 : decode prog_14_method_24_code 6 = .ok (.iconst 0, 1) := by decide +kernel
theorem d_Mod_address_7 : decode prog_14_method_24_code 7 = .ok (.putfield 234, 3) := by decide +kernel
theorem d_Mod_address_10 : decode prog_14_method_24_code 10 = .ok (.iload_n 1, 1) := by decide +kernel
theorem d_Mod_address_11 : decode prog_14_method_24_code 11 = .ok (.bipush 49, 2) := by decide +kernel
theorem d_Mod_address_13 : decode prog_14_method_24_code 13 = .ok (.bipush 57, 2) := by decide +kernel
theorem d_Mod_address_15 : decode prog_14_method_24_code 15 = .ok (.invokestatic 154, 3) := by decide +kernel
theorem d_Mod_address_18 : decode prog_14_method_24_code 18 = .ok (.ifCond .eq 66, 3) := by decide +kernel
theorem d_Mod_address_21 : decode prog_14_method_24_code 21 = .ok (.aload_n 0, 1) := by decide +kernel
theorem d_Mod_address_22 : decode prog_14_method_24_code 22 = .ok (.iload_n 1, 1) := by decide +kernel
theorem d_Mod_address_23 : decode prog_14_method_24_code 23 = .ok (.bipush 48, 2) := by decide +kernel
theorem d_Mod_address_25 : decode prog_14_method_24_code 25 = .ok (.isub, 1) := by decide +kernel
theorem d_Mod_address_26 : decode prog_14_method_24_code 26 = .ok (.putfield 234, 3) := by decide +kernel
theorem d_Mod_address_29 : decode prog_14_method_24_code 29 = .ok (.aload_n 0, 1) := by decide +kernel
theorem d_Mod_address_30 : decode prog_14_method_24_code 30 = .ok (.dup, 1) := by decide +kernel
theorem d_Mod_address_31 : decode prog_14_method_24_code 31 = .ok (.getfield 176, 3) := by decide +kernel
theorem d_Mod_address_34 : decode prog_14_method_24_code 34 = .ok (.iconst 1, 1) := by decide +kernel
theorem d_Mod_address_35 : decode prog_14_method_24_code 35 = .ok (.iadd, 1) := by decide +kernel
theorem d_Mod_address_36 : decode prog_14_method_24_code 36 = .ok (.putfield 176, 3) := by decide +kernel
theorem d_Mod_address_39 : decode prog_14_method_24_code 39 = .ok (.aload_n 0, 1) := by decide +kernel
theorem d_Mod_address_40 : decode prog_14_method_24_code 40 = .ok (.invokevirtual 183, 3) := by decide +kernel
theorem d_Mod_address_43 : decode prog_14_method_24_code 43 = .ok (.bipush 48, 2) := by decide +kernel
theorem d_Mod_address_45 : decode prog_14_method_24_code 45 = .ok (.bipush 57, 2) := by decide +kernel
theorem d_Mod_address_47 : decode prog_14_method_24_code 47 = .ok (.invokestatic 154, 3) := by decide +kernel
theorem d_Mod_address_50 : decode prog_14_method_24_code 50 = .ok (.ifCond .eq 32, 3) := by decide +kernel
theorem d_Mod_address_53 : decode prog_14_method_24_code 53 = .ok (.aload_n 0, 1) := by decide +kernel
theorem d_Mod_address_54 : decode prog_14_method_24_code 54 = .ok (.bipush 10, 2) := by decide +kernel
theorem d_Mod_address_56 : decode prog_14_method_24_code 56 = .ok (.aload_n 0, 1) := by decide +kernel
theorem d_Mod_address_57 : decode prog_14_method_24_code 57 = .ok (.getfield 234, 3) := by decide +kernel
theorem d_Mod_address_60 : decode prog_14_method_24_code 60 = .ok (.imul, 1) := by decide +kernel
theorem d_Mod_address_61 : decode prog_14_method_24_code 61 = .ok (.aload_n 0, 1) := by decide +kernel
theorem d_Mod_address_62 : decode prog_14_method_24_code 62 = .ok (.invokevirtual 183, 3) := by decide +kernel
theorem d_Mod_address_65 : decode prog_14_method_24_code 65 = .ok (.iadd, 1) := by decide +kernel
theorem d_Mod_address_66 : decode prog_14_method_24_code 66 = .ok (.bipush 48, 2) := by decide +kernel
theorem d_Mod_address_68 : decode prog_14_method_24_code 68 = .ok (.isub, 1) := by decide +kernel
theorem d_Mod_address_69 : decode prog_14_method_24_code 69 = .ok (.putfield 234, 3) := by decide +kernel
theorem d_Mod_address_72 : decode prog_14_method_24_code 72 = .ok (.aload_n 0, 1) := by decide +kernel
theorem d_Mod_address_73 : decode prog_14_method_24_code 73 = .ok (.dup, 1) := by decide +kernel
theorem d_Mod_address_74 : decode prog_14_method_24_code 74 = .ok (.getfield 176, 3) := by decide +kernel
theorem d_Mod_address_77 : decode prog_14_method_24_code 77 = .ok (.iconst 1, 1) := by decide +kernel
theorem d_Mod_address_78 : decode prog_14_method_24_code 78 = .ok (.iadd, 1) := by decide +kernel
theorem d_Mod_address_79 : decode prog_14_method_24_code 79 = .ok (.putfield 176, 3) := by decide +kernel
theorem d_Mod_address_82 : decode prog_14_method_24_code 82 = .ok (.iconst 1, 1) := by decide +kernel
theorem d_Mod_address_83 : decode prog_14_method_24_code 83 = .ok (.ireturn, 1) := by decide +kernel
theorem d_Mod_address_84 : decode prog_14_method_24_code 84 = .ok (.iload_n 1, 1) := by decide +kernel
theorem d_Mod_address_85 : decode prog_14_method_24_code 85 = .ok (.bipush 36, 2) := by decide +kernel
theorem d_Mod_address_87 : decode prog_14_method_24_code 87 = .ok (.if_icmp .ne 15, 3) := by decide +kernel
theorem d_Mod_address_90 : decode prog_14_method_24_code 90 = .ok (.aload_n 0, 1) := by decide +kernel
theorem d_Mod_address_91 : decode prog_14_method_24_code 91 = .ok (.dup, 1) := by decide +kernel
theorem d_Mod_address_92 : decode prog_14_method_24_code 92 = .ok (.getfield 176, 3) := by decide +kernel
theorem d_Mod_address_95 : decode prog_14_method_24_code 95 = .ok (.iconst 1, 1) := by decide +kernel
theorem d_Mod_address_96 : decode prog_14_method_24_code 96 = .ok (.iadd, 1) := by decide +kernel
theorem d_Mod_address_97 : decode prog_14_method_24_code 97 = .ok (.putfield 176, 3) := by decide +kernel
theorem d_Mod_address_100 : decode prog_14_method_24_code 100 = .ok (.iconst 2, 1) := by decide +kernel
theorem d_Mod_address_101 : decode prog_14_method_24_code 101 = .ok (.ireturn, 1) := by decide +kernel
theorem d_Mod_address_102 : decode prog_14_method_24_code 102 = .ok (.iload_n 1, 1) := by decide +kernel
theorem d_Mod_address_103 : decode prog_14_method_24_code 103 = .ok (.bipush 47, 2) := by decide +kernel
theorem d_Mod_address_105 : decode prog_14_method_24_code 105 = .ok (.if_icmp .eq 5, 3) := by decide +kernel
theorem d_Mod_address_108 : decode prog_14_method_24_code 108 = .ok (.iconst 0, 1) := by decide +kernel
theorem d_Mod_address_109 : decode prog_14_method_24_code 109 = .ok (.ireturn, 1) := by decide +kernel
theorem d_Mod_address_110 : decode prog_14_method_24_code 110 = .ok (.aload_n 0, 1) := by decide +kernel
theorem d_Mod_address_111 : decode prog_14_method_24_code 111 = .ok (.dup, 1) := by decide +kernel
theorem d_Mod_address_112 : decode prog_14_method_24_code 112 = .ok (.getfield 176, 3) := by decide +kernel
theorem d_Mod_address_115 : decode prog_14_method_24_code 115 = .ok (.iconst 1, 1) := by decide +kernel
theorem d_Mod_address_116 : decode prog_14_method_24_code 116 = .ok (.iadd, 1) := by decide +kernel
theorem d_Mod_address_117 : decode prog_14_method_24_code 117 = .ok (.putfield 176, 3) := by decide +kernel
theorem d_Mod_address_120 : decode prog_14_method_24_code 120 = .ok (.aload_n 0, 1) := by decide +kernel
theorem d_Mod_address_121 : decode prog_14_method_24_code 121 = .ok (.aload_n 0, 1) := by decide +kernel
theorem d_Mod_address_122 : decode prog_14_method_24_code 122 = .ok (.invokevirtual 237, 3) := by decide +kernel
theorem d_Mod_address_125 : decode prog_14_method_24_code 125 = .ok (.putfield 234, 3) := by decide +kernel
theorem d_Mod_address_128 : decode prog_14_method_24_code 128 = .ok (.iconst 3, 1) := by decide +kernel
theorem d_Mod_address_129 : decode prog_14_method_24_code 129 = .ok (.ireturn, 1) := by decide +kernel
theorem d_Mod_blanks_0 : decode prog_14_method_25_code 0 = .ok (.aload_n 0, 1) := by decide +kernel
theorem d_Mod_blanks_1 : decode prog_14_method_25_code 1 = .ok (.invokevirtual 183, 3) := by decide +kernel
theorem d_Mod_blanks_4 : decode prog_14_method_25_code 4 = .ok (.bipush 32, 2) := by decide +kernel
theorem d_Mod_blanks_6 : decode prog_14_method_25_code 6 = .ok (.if_icmp .ne 16, 3) := by decide +kernel
theorem d_Mod_blanks_9 : decode prog_14_method_25_code 9 = .ok (.aload_n 0, 1) := by decide +kernel
theorem d_Mod_blanks_10 : decode prog_14_method_25_code 10 = .ok (.dup, 1) := by decide +kernel
theorem d_Mod_blanks_11 : decode prog_14_method_25_code 11 = .ok (.getfield 176, 3) := by decide +kernel
theorem d_Mod_blanks_14 : decode prog_14_method_25_code 14 = .ok (.iconst 1, 1) := by decide +kernel
theorem d_Mod_blanks_15 : decode prog_14_method_25_code 15 = .ok (.iadd, 1) := by decide +kernel
theorem d_Mod_blanks_16 : decode prog_14_method_25_code 16 = .ok (.putfield 176, 3) := by decide +kernel
theorem d_Mod_blanks_19 : decode prog_14_method_25_code 19 = .ok (.goto (-19), 3) := by decide +kernel
theorem d_Mod_blanks_22 : decode prog_14_method_25_code 22 = .ok (.return_, 1) := by decide +kernel
theorem d_Mod_replacement_0 : decode prog_14_method_26_code 0 = .ok (.aload_n 0, 1) := by decide +kernel
theorem d_Mod_replacement_1 : decode prog_14_method_26_code 1 = .ok (.getfield 41, 3) := by decide +kernel
theorem d_Mod_replacement_4 : decode prog_14_method_26_code 4 = .ok (.iload_n 1, 1) := by decide +kernel
theorem d_Mod_replacement_5 : decode prog_14_method_26_code 5 = .ok (.aload_n 0, 1) := by decide +kernel
theorem d_Mod_replacement_6 : decode prog_14_method_26_code 6 = .ok (.invokevirtual 240, 3) := by decide +kernel
theorem d_Mod_replacement_9 : decode prog_14_method_26_code 9 = .ok (.iastore, 1) := by decide +kernel
theorem d_Mod_replacement_10 : decode prog_14_method_26_code 10 = .ok (.aload_n 0, 1) := by decide +kernel
theorem d_Mod_replacement_11 : decode prog_14_method_26_code 11 = .ok (.getfield 179, 3) := by decide +kernel
theorem d_Mod_replacement_14 : decode prog_14_method_26_code 14 = .ok (.ifCond .ne 227, 3) := by decide +kernel
theorem d_Mod_replacement_17 : decode prog_14_method_26_code 17 = .ok (.aload_n 0, 1) := by decide +kernel
theorem d_Mod_replacement_18 : decode prog_14_method_26_code 18 = .ok (.invokevirtual 183, 3) := by decide +kernel
theorem d_Mod_replacement_21 : decode prog_14_method_26_code 21 = .ok (.bipush 47, 2) := by decide +kernel
theorem d_Mod_replacement_23 : decode prog_14_method_26_code 23 = .ok (.if_icmp .eq 218, 3) := by decide +kernel
theorem d_Mod_replacement_26 : decode prog_14_method_26_code 26 = .ok (.aload_n 0, 1) := by decide +kernel
theorem d_Mod_replacement_27 : decode prog_14_method_26_code 27 = .ok (.invokevirtual 183, 3) := by decide +kernel
theorem d_Mod_replacement_30 : decode prog_14_method_26_code 30 = .ok (.istore_n 2, 1) := by decide +kernel
theorem d_Mod_replacement_31 : decode prog_14_method_26_code 31 = .ok (.aload_n 0, 1) := by decide +kernel
theorem d_Mod_replacement_32 : decode prog_14_method_26_code 32 = .ok (.invokevirtual 200, 3) := by decide +kernel
theorem d_Mod_replacement_35 : decode prog_14_method_26_code 35 = .ok (.istore_n 3, 1) := by decide +kernel
theorem d_Mod_replacement_36 : decode prog_14_method_26_code 36 = .ok (.iload_n 2, 1) := by decide +kernel
theorem d_Mod_replacement_37 : decode prog_14_method_26_code 37 = .ok (.iconst (-1), 1) := by decide +kernel
theorem d_Mod_replacement_38 : decode prog_14_method_26_code 38 = .ok (.if_icmp .ne 14, 3) := by decide +kernel
theorem d_Mod_replacement_41 : decode prog_14_method_26_code 41 = .ok (.aload_n 0, 1) := by decide +kernel
theorem d_Mod_replacement_42 : decode prog_14_method_26_code 42 = .ok (.aload_n 0, 1) := by decide +kernel
theorem d_Mod_replacement_43 : decode prog_14_method_26_code 43 = .ok (.getfield 166, 3) := by decide +kernel
theorem d_Mod_replacement_46 : decode prog_14_method_26_code 46 = .ok (.invokevirtual 187, 3) := by decide +kernel
theorem d_Mod_replacement_49 : decode prog_14_method_26_code 49 = .ok (.goto 189, 3) := by decide +kernel
theorem d_Mod_replacement_52 : decode prog_14_method_26_code 52 = .ok (.iload_n 2, 1) := by decide +kernel
theorem d_Mod_replacement_53 : decode prog_14_method_26_code 53 = .ok (.bipush 10, 2) := by decide +kernel
theorem d_Mod_replacement_55 : decode prog_14_method_26_code 55 = .ok (.if_icmp .ne 14, 3) := by decide +kernel
theorem d_Mod_replacement_58 : decode prog_14_method_26_code 58 = .ok (.aload_n 0, 1) := by decide +kernel
theorem d_Mod_replacement_59 : decode prog_14_method_26_code 59 = .ok (.aload_n 0, 1) := by decide +kernel
theorem d_Mod_replacement_60 : decode prog_14_method_26_code 60 = .ok (.getfield 176, 3) := by decide +kernel
theorem d_Mod_replacement_63 : decode prog_14_method_26_code 63 = .ok (.invokevirtual 187, 3) := by decide +kernel
theorem d_Mod_replacement_66 : decode prog_14_method_26_code 66 = .ok (.goto 172, 3) := by decide +kernel
theorem d_Mod_replacement_69 : decode prog_14_method_26_code 69 = .ok (.iload_n 2, 1) := by decide +kernel
theorem d_Mod_replacement_70 : decode prog_14_method_26_code 70 = .ok (.bipush 38, 2) := by decide +kernel
theorem d_Mod_replacement_72 : decode prog_14_method_26_code 72 = .ok (.if_icmp .ne 23, 3) := by decide +kernel
theorem d_Mod_replacement_75 : decode prog_14_method_26_code 75 = .ok (.aload_n 0, 1) := by decide +kernel
theorem d_Mod_replacement_76 : decode prog_14_method_26_code 76 = .ok (.sipush 200, 3) := by decide +kernel
theorem d_Mod_replacement_79 : decode prog_14_method_26_code 79 = .ok (.invokevirtual 243, 3) := by decide +kernel
theorem d_Mod_replacement_82 : decode prog_14_method_26_code 82 = .ok (.aload_n 0, 1) := by decide +kernel
theorem d_Mod_replacement_83 : decode prog_14_method_26_code 83 = .ok (.dup, 1) := by decide +kernel
theorem d_Mod_replacement_84 : decode prog_14_method_26_code 84 = .ok (.getfield 176, 3) := by decide +kernel
theorem d_Mod_replacement_87 : decode prog_14_method_26_code 87 = .ok (.iconst 1, 1) := by decide +kernel
theorem d_Mod_replacement_88 : decode prog_14_method_26_code 88 = .ok (.iadd, 1) := by decide +kernel
theorem d_Mod_replacement_89 : decode prog_14_method_26_code 89 = .ok (.putfield 176, 3) := by decide +kernel
theorem d_Mod_replacement_92 : decode prog_14_method_26_code 92 = .ok (.goto 146, 3) := by decide +kernel
theorem d_Mod_replacement_95 : decode prog_14_method_26_code 95 = .ok (.iload_n 2, 1) := by decide +kernel
theorem d_Mod_replacement_96 : decode prog_14_method_26_code 96 = .ok (.bipush 92, 2) := by decide +kernel
theorem d_Mod_replacement_98 : decode prog_14_method_26_code 98 = .ok (.if_icmp .eq 21, 3) := by decide +kernel
theorem d_Mod_replacement_101 : decode prog_14_method_26_code 101 = .ok (.aload_n 0, 1) := by decide +kernel
theorem d_Mod_replacement_102 : decode prog_14_method_26_code 102 = .ok (.iload_n 2, 1) := by decide +kernel
theorem d_Mod_replacement_103 : decode prog_14_method_26_code 103 = .ok (.invokevirtual 243, 3) := by decide +kernel
theorem d_Mod_replacement_106 : decode prog_14_method_26_code 106 = .ok (.aload_n 0, 1) := by decide +kernel
theorem d_Mod_replacement_107 : decode prog_14_method_26_code 107 = .ok (.dup, 1) := by decide +kernel
theorem d_Mod_replacement_108 : decode prog_14_method_26_code 108 = .ok (.getfield 176, 3) := by decide +kernel
theorem d_Mod_replacement_111 : decode prog_14_method_26_code 111 = .ok (.iconst 1, 1) := by decide +kernel
theorem d_Mod_replacement_112 : decode prog_14_method_26_code 112 = .ok (.iadd, 1) := by decide +kernel
theorem d_Mod_replacement_113 : decode prog_14_method_26_code 113 = .ok (.putfield 176, 3) := by decide +kernel
theorem d_Mod_replacement_116 : decode prog_14_method_26_code 116 = .ok (.goto 122, 3) := by decide +kernel
theorem d_Mod_replacement_119 : decode prog_14_method_26_code 119 = .ok (.iload_n 3, 1) := by decide +kernel
theorem d_Mod_replacement_120 : decode prog_14_method_26_code 120 = .ok (.iconst (-1), 1) := by decide +kernel
theorem d_Mod_replacement_121 : decode prog_14_method_26_code 121 = .ok (.if_icmp .ne 14, 3) := by decide +kernel
theorem d_Mod_replacement_124 : decode prog_14_method_26_code 124 = .ok (.aload_n 0, 1) := by decide +kernel
theorem d_Mod_replacement_125 : decode prog_14_method_26_code 125 = .ok (.aload_n 0, 1) := by decide +kernel
theorem d_Mod_replacement_126 : decode prog_14_method_26_code 126 = .ok (.getfield 166, 3) := by decide +kernel
theorem d_Mod_replacement_129 : decode prog_14_method_26_code 129 = .ok (.invokevirtual 187, 3) := by decide +kernel
theorem d_Mod_replacement_132 : decode prog_14_method_26_code 132 = .ok (.goto 96, 3) := by decide +kernel
theorem d_Mod_replacement_135 : decode prog_14_method_26_code 135 = .ok (.iload_n 3, 1) := by decide +kernel
theorem d_Mod_replacement_136 : decode prog_14_method_26_code 136 = .ok (.bipush 49, 2) := by decide +kernel
theorem d_Mod_replacement_138 : decode prog_14_method_26_code 138 = .ok (.bipush 51, 2) := by decide +kernel
theorem d_Mod_replacement_140 : decode prog_14_method_26_code 140 = .ok (.invokestatic 154, 3) := by decide +kernel
theorem d_Mod_replacement_143 : decode prog_14_method_26_code 143 = .ok (.ifCond .eq 36, 3) := by decide +kernel
theorem d_Mod_replacement_146 : decode prog_14_method_26_code 146 = .ok (.iload_n 3, 1) := by decide +kernel
theorem d_Mod_replacement_147 : decode prog_14_method_26_code 147 = .ok (.bipush 48, 2) := by decide +kernel
theorem d_Mod_replacement_149 : decode prog_14_method_26_code 149 = .ok (.isub, 1) := by decide +kernel
theorem d_Mod_replacement_150 : decode prog_14_method_26_code 150 = .ok (.aload_n 0, 1) := by decide +kernel
theorem d_Mod_replacement_151 : decode prog_14_method_26_code 151 = .ok (.getfield 87, 3) := by decide +kernel
theorem d_Mod_replacement_154 : decode prog_14_method_26_code 154 = .ok (.aload_n 0, 1) := by decide +kernel
theorem d_Mod_replacement_155 : decode prog_14_method_26_code 155 = .ok (.getfield 38, 3) := by decide +kernel
theorem d_Mod_replacement_158 : decode prog_14_method_26_code 158 = .ok (.iload_n 1, 1) := by decide +kernel
theorem d_Mod_replacement_159 : decode prog_14_method_26_code 159 = .ok (.iaload, 1) := by decide +kernel
theorem d_Mod_replacement_160 : decode prog_14_method_26_code 160 = .ok (.iaload, 1) := by decide +kernel
theorem d_Mod_replacement_161 : decode prog_14_method_26_code 161 = .ok (.if_icmp .gt 18, 3) := by decide +kernel
theorem d_Mod_replacement_164 : decode prog_14_method_26_code 164 = .ok (.aload_n 0, 1) := by decide +kernel
theorem d_Mod_replacement_165 : decode prog_14_method_26_code 165 = .ok (.sipush 200, 3) := by decide +kernel
theorem d_Mod_replacement_168 : decode prog_14_method_26_code 168 = .ok (.iload_n 3, 1) := by decide +kernel
theorem d_Mod_replacement_169 : decode prog_14_method_26_code 169 = .ok (.iadd, 1) := by decide +kernel
theorem d_Mod_replacement_170 : decode prog_14_method_26_code 170 = .ok (.bipush 48, 2) := by decide +kernel
theorem d_Mod_replacement_172 : decode prog_14_method_26_code 172 = .ok (.isub, 1) := by decide +kernel
theorem d_Mod_replacement_173 : decode prog_14_method_26_code 173 = .ok (.invokevirtual 243, 3) := by decide +kernel
theorem d_Mod_replacement_176 : decode prog_14_method_26_code 176 = .ok (.goto 52, 3) := by decide +kernel
theorem d_Mod_replacement_179 : decode prog_14_method_26_code 179 = .ok (.iload_n 3, 1) := by decide +kernel
theorem d_Mod_replacement_180 : decode prog_14_method_26_code 180 = .ok (.bipush 38, 2) := by decide +kernel
theorem d_Mod_replacement_182 : decode prog_14_method_26_code 182 = .ok (.if_icmp .eq 15, 3) := by decide +kernel
theorem d_Mod_replacement_185 : decode prog_14_method_26_code 185 = .ok (.iload_n 3, 1) := by decide +kernel
theorem d_Mod_replacement_186 : decode prog_14_method_26_code 186 = .ok (.bipush 47, 2) := by decide +kernel
theorem d_Mod_replacement_188 : decode prog_14_method_26_code 188 = .ok (.if_icmp .eq 9, 3) := by decide +kernel
theorem d_Mod_replacement_191 : decode prog_14_method_26_code 191 = .ok (.iload_n 3, 1) := by decide +kernel
theorem d_Mod_replacement_192 : decode prog_14_method_26_code 192 = .ok (.bipush 92, 2) := by decide +kernel
theorem d_Mod_replacement_194 : decode prog_14_method_26_code 194 = .ok (.if_icmp .ne 11, 3) := by decide +kernel
theorem d_Mod_replacement_197 : decode prog_14_method_26_code 197 = .ok (.aload_n 0, 1) := by decide +kernel
theorem d_Mod_replacement_198 : decode prog_14_method_26_code 198 = .ok (.iload_n 3, 1) := by decide +kernel
theorem d_Mod_replacement_199 : decode prog_14_method_26_code 199 = .ok (.invokevirtual 243, 3) := by decide +kernel
theorem d_Mod_replacement_202 : decode prog_14_method_26_code 202 = .ok (.goto 26, 3) := by decide +kernel
theorem d_Mod_replacement_205 : decode prog_14_method_26_code 205 = .ok (.iload_n 3, 1) := by decide +kernel
theorem d_Mod_replacement_206 : decode prog_14_method_26_code 206 = .ok (.bipush 110, 2) := by decide +kernel
theorem d_Mod_replacement_208 : decode prog_14_method_26_code 208 = .ok (.if_icmp .ne 12, 3) := by decide +kernel
theorem d_Mod_replacement_211 : decode prog_14_method_26_code 211 = .ok (.aload_n 0, 1) := by decide +kernel
theorem d_Mod_replacement_212 : decode prog_14_method_26_code 212 = .ok (.bipush 10, 2) := by decide +kernel
theorem d_Mod_replacement_214 : decode prog_14_method_26_code 214 = .ok (.invokevirtual 243, 3) := by decide +kernel
theorem d_Mod_replacement_217 : decode prog_14_method_26_code 217 = .ok (.goto 11, 3) := by decide +kernel
theorem d_Mod_replacement_220 : decode prog_14_method_26_code 220 = .ok (.aload_n 0, 1) := by decide +kernel
theorem d_Mod_replacement_221 : decode prog_14_method_26_code 221 = .ok (.aload_n 0, 1) := by decide +kernel
theorem d_Mod_replacement_222 : decode prog_14_method_26_code 222 = .ok (.getfield 176, 3) := by decide +kernel
theorem d_Mod_replacement_225 : decode prog_14_method_26_code 225 = .ok (.invokevirtual 187, 3) := by decide +kernel
theorem d_Mod_replacement_228 : decode prog_14_method_26_code 228 = .ok (.aload_n 0, 1) := by decide +kernel
theorem d_Mod_replacement_229 : decode prog_14_method_26_code 229 = .ok (.dup, 1) := by decide +kernel
theorem d_Mod_replacement_230 : decode prog_14_method_26_code 230 = .ok (.getfield 176, 3) := by decide +kernel
theorem d_Mod_replacement_233 : decode prog_14_method_26_code 233 = .ok (.iconst 2, 1) := by decide +kernel
theorem d_Mod_replacement_234 : decode prog_14_method_26_code 234 = .ok (.iadd, 1) := by decide +kernel
theorem d_Mod_replacement_235 : decode prog_14_method_26_code 235 = .ok (.putfield 176, 3) := by decide +kernel
theorem d_Mod_replacement_238 : decode prog_14_method_26_code 238 = .ok (.goto (-228), 3) := by decide +kernel
theorem d_Mod_replacement_241 : decode prog_14_method_26_code 241 = .ok (.aload_n 0, 1) := by decide +kernel
theorem d_Mod_replacement_242 : decode prog_14_method_26_code 242 = .ok (.dup, 1) := by decide +kernel
theorem d_Mod_replacement_243 : decode prog_14_method_26_code 243 = .ok (.getfield 176, 3) := by decide +kernel
theorem d_Mod_replacement_246 : decode prog_14_method_26_code 246 = .ok (.iconst 1, 1) := by decide +kernel
theorem d_Mod_replacement_247 : decode prog_14_method_26_code 247 = .ok (.iadd, 1) := by decide +kernel
theorem d_Mod_replacement_248 : decode prog_14_method_26_code 248 = .ok (.putfield 176, 3) := by decide +kernel
theorem d_Mod_replacement_251 : decode prog_14_method_26_code 251 = .ok (.aload_n 0, 1) := by decide +kernel
theorem d_Mod_replacement_252 : decode prog_14_method_26_code 252 = .ok (.getfield 44, 3) := by decide +kernel
theorem d_Mod_replacement_255 : decode prog_14_method_26_code 255 = .ok (.iload_n 1, 1) := by decide +kernel
theorem d_Mod_replacement_256 : decode prog_14_method_26_code 256 = .ok (.aload_n 0, 1) := by decide +kernel
theorem d_Mod_replacement_257 : decode prog_14_method_26_code 257 = .ok (.invokevirtual 240, 3) := by decide +kernel
theorem d_Mod_replacement_260 : decode prog_14_method_26_code 260 = .ok (.iastore, 1) := by decide +kernel
theorem d_Mod_replacement_261 : decode prog_14_method_26_code 261 = .ok (.return_, 1) := by decide +kernel
