theorem d_SF_init_0 : decode prog_1_method_1_code 0 = .ok (.aload_n 0, 1) := by decide +kernel
theorem d_SF_init_1 : decode prog_1_method_1_code 1 = .ok (.invokespecial 1, 3) := by decide +kernel
theorem d_SF_init_4 : decode prog_1_method_1_code 4 = .ok (.aload_n 0, 1) := by decide +kernel
theorem d_SF_init_5 : decode prog_1_method_1_code 5 = .ok (.new 7, 3) := by decide +kernel
theorem d_SF_init_8 : decode prog_1_method_1_code 8 = .ok (.dup, 1) := by decide +kernel
theorem d_SF_init_9 : decode prog_1_method_1_code 9 = .ok (.sipush 240, 3) := by decide +kernel
theorem d_SF_init_12 : decode prog_1_method_1_code 12 = .ok (.invokespecial 11, 3) := by decide +kernel
theorem d_SF_init_15 : decode prog_1_method_1_code 15 = .ok (.putfield 14, 3) := by decide +kernel
theorem d_SF_init_18 : decode prog_1_method_1_code 18 = .ok (.aload_n 0, 1) := by decide +kernel
theorem d_SF_init_19 : decode prog_1_method_1_code 19 = .ok (.bipush 12, 2) := by decide +kernel
theorem d_SF_init_21 : decode prog_1_method_1_code 21 = .ok (.anewarray 7, 3) := by decide +kernel
theorem d_SF_init_24 : decode prog_1_method_1_code 24 = .ok (.putfield 18, 3) := by decide +kernel
theorem d_SF_init_27 : decode prog_1_method_1_code 27 = .ok (.aload_n 0, 1) := by decide +kernel
theorem d_SF_init_28 : decode prog_1_method_1_code 28 = .ok (.new 22, 3) := by decide +kernel
theorem d_SF_init_31 : decode prog_1_method_1_code 31 = .ok (.dup, 1) := by decide +kernel
theorem d_SF_init_32 : decode prog_1_method_1_code 32 = .ok (.invokespecial 24, 3) := by decide +kernel
theorem d_SF_init_35 : decode prog_1_method_1_code 35 = .ok (.putfield 25, 3) := by decide +kernel
theorem d_SF_init_38 : decode prog_1_method_1_code 38 = .ok (.aload_n 0, 1) := by decide +kernel
theorem d_SF_init_39 : decode prog_1_method_1_code 39 = .ok (.new 29, 3) := by decide +kernel
theorem d_SF_init_42 : decode prog_1_method_1_code 42 = .ok (.dup, 1) := by decide +kernel
theorem d_SF_init_43 : decode prog_1_method_1_code 43 = .ok (.invokespecial 31, 3) := by decide +kernel
theorem d_SF_init_46 : decode prog_1_method_1_code 46 = .ok (.putfield 32, 3) := by decide +kernel
theorem d_SF_init_49 : decode prog_1_method_1_code 49 = .ok (.aload_n 0, 1) := by decide +kernel
theorem d_SF_init_50 : decode prog_1_method_1_code 50 = .ok (.new 36, 3) := by decide +kernel
theorem d_SF_init_53 : decode prog_1_method_1_code 53 = .ok (.dup, 1) := by decide +kernel
theorem d_SF_init_54 : decode prog_1_method_1_code 54 = .ok (.invokespecial 38, 3) := by decide +kernel
theorem d_SF_init_57 : decode prog_1_method_1_code 57 = .ok (.putfield 39, 3) := by decide +kernel
theorem d_SF_init_60 : decode prog_1_method_1_code 60 = .ok (.aload_n 0, 1) := by decide +kernel
theorem d_SF_init_61 : decode prog_1_method_1_code 61 = .ok (.new 43, 3) := by decide +kernel
theorem d_SF_init_64 : decode prog_1_method_1_code 64 = .ok (.dup, 1) := by decide +kernel
theorem d_SF_init_65 : decode prog_1_method_1_code 65 = .ok (.invokespecial 45, 3) := by decide +kernel
theorem d_SF_init_68 : decode prog_1_method_1_code 68 = .ok (.putfield 46, 3) := by decide +kernel
theorem d_SF_init_71 : decode prog_1_method_1_code 71 = .ok (.aload_n 0, 1) := by decide +kernel
theorem d_SF_init_72 : decode prog_1_method_1_code 72 = .ok (.new 43, 3) := by decide +kernel
theorem d_SF_init_75 : decode prog_1_method_1_code 75 = .ok (.dup, 1) := by decide +kernel
theorem d_SF_init_76 : decode prog_1_method_1_code 76 = .ok (.invokespecial 45, 3) := by decide +kernel
theorem d_SF_init_79 : decode prog_1_method_1_code 79 = .ok (.putfield 50, 3) := by decide +kernel
theorem d_SF_init_82 : decode prog_1_method_1_code 82 = .ok (.aload_n 0, 1) := by decide +kernel
theorem d_SF_init_83 : decode prog_1_method_1_code 83 = .ok (.bipush (-2), 2) := by decide +kernel
theorem d_SF_init_85 : decode prog_1_method_1_code 85 = .ok (.putfield 53, 3) := by decide +kernel
theorem d_SF_init_88 : decode prog_1_method_1_code 88 = .ok (.iconst 0, 1) := by decide +kernel
theorem d_SF_init_89 : decode prog_1_method_1_code 89 = .ok (.istore_n 1, 1) := by decide +kernel
theorem d_SF_init_90 : decode prog_1_method_1_code 90 = .ok (.iload_n 1, 1) := by decide +kernel
theorem d_SF_init_91 : decode prog_1_method_1_code 91 = .ok (.bipush 12, 2) := by decide +kernel
theorem d_SF_init_93 : decode prog_1_method_1_code 93 = .ok (.if_icmp .ge 24, 3) := by decide +kernel
theorem d_SF_init_96 : decode prog_1_method_1_code 96 = .ok (.aload_n 0, 1) := by decide +kernel
theorem d_SF_init_97 : decode prog_1_method_1_code 97 = .ok (.getfield 18, 3) := by decide +kernel
theorem d_SF_init_100 : decode prog_1_method_1_code 100 = .ok (.iload_n 1, 1) := by decide +kernel
theorem d_SF_init_101 : decode prog_1_method_1_code 101 = .ok (.new 7, 3) := by decide +kernel
theorem d_SF_init_104 : decode prog_1_method_1_code 104 = .ok (.dup, 1) := by decide +kernel
theorem d_SF_init_105 : decode prog_1_method_1_code 105 = .ok (.bipush 24, 2) := by decide +kernel
theorem d_SF_init_107 : decode prog_1_method_1_code 107 = .ok (.invokespecial 11, 3) := by decide +kernel
theorem d_SF_init_110 : decode prog_1_method_1_code 110 = .ok (.aastore, 1) := by decide +kernel
theorem d_SF_init_111 : decode prog_1_method_1_code 111 = .ok (.iinc 1 1, 3) := by decide +kernel
theorem d_SF_init_114 : decode prog_1_method_1_code 114 = .ok (.goto (-24), 3) := by decide +kernel
theorem d_SF_init_117 : decode prog_1_method_1_code 117 = .ok (.return_, 1) := by decide +kernel
theorem d_Mod_init_0 : decode prog_14_method_1_code 0 = .ok (.aload_n 0, 1) := by decide +kernel
theorem d_Mod_init_1 : decode prog_14_method_1_code 1 = .ok (.invokespecial 1, 3) := by decide +kernel
theorem d_Mod_init_4 : decode prog_14_method_1_code 4 = .ok (.aload_n 0, 1) := by decide +kernel
theorem d_Mod_init_5 : decode prog_14_method_1_code 5 = .ok (.sipush 240, 3) := by decide +kernel
theorem d_Mod_init_8 : decode prog_14_method_1_code 8 = .ok (.newarray .int, 2) := by decide +kernel
theorem d_Mod_init_10 : decode prog_14_method_1_code 10 = .ok (.putfield 7, 3) := by decide +kernel
theorem d_Mod_init_13 : decode prog_14_method_1_code 13 = .ok (.aload_n 0, 1) := by decide +kernel
theorem d_Mod_init_14 : decode prog_14_method_1_code 14 = .ok (.bipush 12, 2) := by decide +kernel
theorem d_Mod_init_16 : decode prog_14_method_1_code 16 = .ok (.newarray .int, 2) := by decide +kernel
theorem d_Mod_init_18 : decode prog_14_method_1_code 18 = .ok (.putfield 13, 3) := by decide +kernel
theorem d_Mod_init_21 : decode prog_14_method_1_code 21 = .ok (.aload_n 0, 1) := by decide +kernel
theorem d_Mod_init_22 : decode prog_14_method_1_code 22 = .ok (.sipush 288, 3) := by decide +kernel
theorem d_Mod_init_25 : decode prog_14_method_1_code 25 = .ok (.newarray .int, 2) := by decide +kernel
theorem d_Mod_init_27 : decode prog_14_method_1_code 27 = .ok (.putfield 16, 3) := by decide +kernel
theorem d_Mod_init_30 : decode prog_14_method_1_code 30 = .ok (.aload_n 0, 1) := by decide +kernel
theorem d_Mod_init_31 : decode prog_14_method_1_code 31 = .ok (.bipush (-2), 2) := by decide +kernel
theorem d_Mod_init_33 : decode prog_14_method_1_code 33 = .ok (.putfield 19, 3) := by decide +kernel
theorem d_Mod_init_36 : decode prog_14_method_1_code 36 = .ok (.aload_n 0, 1) := by decide +kernel
theorem d_Mod_init_37 : decode prog_14_method_1_code 37 = .ok (.bipush 80, 2) := by decide +kernel
theorem d_Mod_init_39 : decode prog_14_method_1_code 39 = .ok (.newarray .int, 2) := by decide +kernel
theorem d_Mod_init_41 : decode prog_14_method_1_code 41 = .ok (.putfield 23, 3) := by decide +kernel
theorem d_Mod_init_44 : decode prog_14_method_1_code 44 = .ok (.aload_n 0, 1) := by decide +kernel
theorem d_Mod_init_45 : decode prog_14_method_1_code 45 = .ok (.bipush 80, 2) := by decide +kernel
theorem d_Mod_init_47 : decode prog_14_method_1_code 47 = .ok (.newarray .int, 2) := by decide +kernel
theorem d_Mod_init_49 : decode prog_14_method_1_code 49 = .ok (.putfield 26, 3) := by decide +kernel
theorem d_Mod_init_52 : decode prog_14_method_1_code 52 = .ok (.aload_n 0, 1) := by decide +kernel
theorem d_Mod_init_53 : decode prog_14_method_1_code 53 = .ok (.bipush 80, 2) := by decide +kernel
theorem d_Mod_init_55 : decode prog_14_method_1_code 55 = .ok (.newarray .int, 2) := by decide +kernel
theorem d_Mod_init_57 : decode prog_14_method_1_code 57 = .ok (.putfield 29, 3) := by decide +kernel
theorem d_Mod_init_60 : decode prog_14_method_1_code 60 = .ok (.aload_n 0, 1) := by decide +kernel
theorem d_Mod_init_61 : decode prog_14_method_1_code 61 = .ok (.bipush 80, 2) := by decide +kernel
theorem d_Mod_init_63 : decode prog_14_method_1_code 63 = .ok (.newarray .int, 2) := by decide +kernel
theorem d_Mod_init_65 : decode prog_14_method_1_code 65 = .ok (.putfield 32, 3) := by decide +kernel
theorem d_Mod_init_68 : decode prog_14_method_1_code 68 = .ok (.aload_n 0, 1) := by decide +kernel
theorem d_Mod_init_69 : decode prog_14_method_1_code 69 = .ok (.bipush 80, 2) := by decide +kernel
theorem d_Mod_init_71 : decode prog_14_method_1_code 71 = .ok (.newarray .int, 2) := by decide +kernel
theorem d_Mod_init_73 : decode prog_14_method_1_code 73 = .ok (.putfield 35, 3) := by decide +kernel
theorem d_Mod_init_76 : decode prog_14_method_1_code 76 = .ok (.aload_n 0, 1) := by decide +kernel
theorem d_Mod_init_77 : decode prog_14_method_1_code 77 = .ok (.bipush 80, 2) := by decide +kernel
theorem d_Mod_init_79 : decode prog_14_method_1_code 79 = .ok (.newarray .int, 2) := by decide +kernel
theorem d_Mod_init_81 : decode prog_14_method_1_code 81 = .ok (.putfield 38, 3) := by decide +kernel
theorem d_Mod_init_84 : decode prog_14_method_1_code 84 = .ok (.aload_n 0, 1) := by decide +kernel
theorem d_Mod_init_85 : decode prog_14_method_1_code 85 = .ok (.bipush 80, 2) := by decide +kernel
theorem d_Mod_init_87 : decode prog_14_method_1_code 87 = .ok (.newarray .int, 2) := by decide +kernel
theorem d_Mod_init_89 : decode prog_14_method_1_code 89 = .ok (.putfield 41, 3) := by decide +kernel
theorem d_Mod_init_92 : decode prog_14_method_1_code 92 = .ok (.aload_n 0, 1) := by decide +kernel
theorem d_Mod_init_93 : decode prog_14_method_1_code 93 = .ok (.bipush 80, 2) := by decide +kernel
theorem d_Mod_init_95 : decode prog_14_method_1_code 95 = .ok (.newarray .int, 2) := by decide +kernel
theorem d_Mod_init_97 : decode prog_14_method_1_code 97 = .ok (.putfield 44, 3) := by decide +kernel
theorem d_Mod_init_100 : decode prog_14_method_1_code 100 = .ok (.aload_n 0, 1) := by decide +kernel
theorem d_Mod_init_101 : decode prog_14_method_1_code 101 = .ok (.bipush 80, 2) := by decide +kernel
theorem d_Mod_init_103 : decode prog_14_method_1_code 103 = .ok (.newarray .int, 2) := by decide +kernel
theorem d_Mod_init_105 : decode prog_14_method_1_code 105 = .ok (.putfield 47, 3) := by decide +kernel
theorem d_Mod_init_108 : decode prog_14_method_1_code 108 = .ok (.aload_n 0, 1) := by decide +kernel
theorem d_Mod_init_109 : decode prog_14_method_1_code 109 = .ok (.bipush 80, 2) := by decide +kernel
theorem d_Mod_init_111 : decode prog_14_method_1_code 111 = .ok (.newarray .int, 2) := by decide +kernel
theorem d_Mod_init_113 : decode prog_14_method_1_code 113 = .ok (.putfield 50, 3) := by decide +kernel
theorem d_Mod_init_116 : decode prog_14_method_1_code 116 = .ok (.aload_n 0, 1) := by decide +kernel
theorem d_Mod_init_117 : decode prog_14_method_1_code 117 = .ok (.bipush 80, 2) := by decide +kernel
theorem d_Mod_init_119 : decode prog_14_method_1_code 119 = .ok (.newarray .int, 2) := by decide +kernel
theorem d_Mod_init_121 : decode prog_14_method_1_code 121 = .ok (.putfield 53, 3) := by decide +kernel
theorem d_Mod_init_124 : decode prog_14_method_1_code 124 = .ok (.aload_n 0, 1) := by decide +kernel
theorem d_Mod_init_125 : decode prog_14_method_1_code 125 = .ok (.bipush 80, 2) := by decide +kernel
theorem d_Mod_init_127 : decode prog_14_method_1_code 127 = .ok (.newarray .int, 2) := by decide +kernel
theorem d_Mod_init_129 : decode prog_14_method_1_code 129 = .ok (.putfield 56, 3) := by decide +kernel
theorem d_Mod_init_132 : decode prog_14_method_1_code 132 = .ok (.aload_n 0, 1) := by decide +kernel
theorem d_Mod_init_133 : decode prog_14_method_1_code 133 = .ok (.bipush 80, 2) := by decide +kernel
theorem d_Mod_init_135 : decode prog_14_method_1_code 135 = .ok (.newarray .boolean, 2) := by decide +kernel
theorem d_Mod_init_137 : decode prog_14_method_1_code 137 = .ok (.putfield 59, 3) := by decide +kernel
theorem d_Mod_init_140 : decode prog_14_method_1_code 140 = .ok (.aload_n 0, 1) := by decide +kernel
theorem d_Mod_init_141 : decode prog_14_method_1_code 141 = .ok (.bipush 80, 2) := by decide +kernel
theorem d_Mod_init_143 : decode prog_14_method_1_code 143 = .ok (.newarray .boolean, 2) := by decide +kernel
theorem d_Mod_init_145 : decode prog_14_method_1_code 145 = .ok (.putfield 63, 3) := by decide +kernel
theorem d_Mod_init_148 : decode prog_14_method_1_code 148 = .ok (.aload_n 0, 1) := by decide +kernel
theorem d_Mod_init_149 : decode prog_14_method_1_code 149 = .ok (.bipush 80, 2) := by decide +kernel
theorem d_Mod_init_151 : decode prog_14_method_1_code 151 = .ok (.newarray .boolean, 2) := by decide +kernel
theorem d_Mod_init_153 : decode prog_14_method_1_code 153 = .ok (.putfield 66, 3) := by decide +kernel
theorem d_Mod_init_156 : decode prog_14_method_1_code 156 = .ok (.aload_n 0, 1) := by decide +kernel
theorem d_Mod_init_157 : decode prog_14_method_1_code 157 = .ok (.iconst 2, 1) := by decide +kernel
theorem d_Mod_init_158 : decode prog_14_method_1_code 158 = .ok (.newarray .int, 2) := by decide +kernel
theorem d_Mod_init_160 : decode prog_14_method_1_code 160 = .ok (.putfield 69, 3) := by decide +kernel
theorem d_Mod_init_163 : decode prog_14_method_1_code 163 = .ok (.aload_n 0, 1) := by decide +kernel
theorem d_Mod_init_164 : decode prog_14_method_1_code 164 = .ok (.iconst 2, 1) := by decide +kernel
theorem d_Mod_init_165 : decode prog_14_method_1_code 165 = .ok (.newarray .int, 2) := by decide +kernel
theorem d_Mod_init_167 : decode prog_14_method_1_code 167 = .ok (.putfield 72, 3) := by decide +kernel
theorem d_Mod_init_170 : decode prog_14_method_1_code 170 = .ok (.aload_n 0, 1) := by decide +kernel
theorem d_Mod_init_171 : decode prog_14_method_1_code 171 = .ok (.iconst 2, 1) := by decide +kernel
theorem d_Mod_init_172 : decode prog_14_method_1_code 172 = .ok (.newarray .int, 2) := by decide +kernel
theorem d_Mod_init_174 : decode prog_14_method_1_code 174 = .ok (.putfield 75, 3) := by decide +kernel
theorem d_Mod_init_177 : decode prog_14_method_1_code 177 = .ok (.aload_n 0, 1) := by decide +kernel
theorem d_Mod_init_178 : decode prog_14_method_1_code 178 = .ok (.iconst 2, 1) := by decide +kernel
theorem d_Mod_init_179 : decode prog_14_method_1_code 179 = .ok (.newarray .int, 2) := by decide +kernel
theorem d_Mod_init_181 : decode prog_14_method_1_code 181 = .ok (.putfield 78, 3) := by decide +kernel
theorem d_Mod_init_184 : decode prog_14_method_1_code 184 = .ok (.aload_n 0, 1) := by decide +kernel
theorem d_Mod_init_185 : decode prog_14_method_1_code 185 = .ok (.sipush 260, 3) := by decide +kernel
theorem d_Mod_init_188 : decode prog_14_method_1_code 188 = .ok (.newarray .int, 2) := by decide +kernel
theorem d_Mod_init_190 : decode prog_14_method_1_code 190 = .ok (.putfield 81, 3) := by decide +kernel
theorem d_Mod_init_193 : decode prog_14_method_1_code 193 = .ok (.aload_n 0, 1) := by decide +kernel
theorem d_Mod_init_194 : decode prog_14_method_1_code 194 = .ok (.sipush 260, 3) := by decide +kernel
theorem d_Mod_init_197 : decode prog_14_method_1_code 197 = .ok (.newarray .int, 2) := by decide +kernel
theorem d_Mod_init_199 : decode prog_14_method_1_code 199 = .ok (.putfield 84, 3) := by decide +kernel
theorem d_Mod_init_202 : decode prog_14_method_1_code 202 = .ok (.aload_n 0, 1) := by decide +kernel
theorem d_Mod_init_203 : decode prog_14_method_1_code 203 = .ok (.sipush 260, 3) := by decide +kernel
theorem d_Mod_init_206 : decode prog_14_method_1_code 206 = .ok (.newarray .int, 2) := by decide +kernel
theorem d_Mod_init_208 : decode prog_14_method_1_code 208 = .ok (.putfield 87, 3) := by decide +kernel
theorem d_Mod_init_211 : decode prog_14_method_1_code 211 = .ok (.aload_n 0, 1) := by decide +kernel
theorem d_Mod_init_212 : decode prog_14_method_1_code 212 = .ok (.sipush 520, 3) := by decide +kernel
theorem d_Mod_init_215 : decode prog_14_method_1_code 215 = .ok (.newarray .int, 2) := by decide +kernel
theorem d_Mod_init_217 : decode prog_14_method_1_code 217 = .ok (.putfield 90, 3) := by decide +kernel
theorem d_Mod_init_220 : decode prog_14_method_1_code 220 = .ok (.aload_n 0, 1) := by decide +kernel
theorem d_Mod_init_221 : decode prog_14_method_1_code 221 = .ok (.sipush 520, 3) := by decide +kernel
theorem d_Mod_init_224 : decode prog_14_method_1_code 224 = .ok (.newarray .int, 2) := by decide +kernel
theorem d_Mod_init_226 : decode prog_14_method_1_code 226 = .ok (.putfield 93, 3) := by decide +kernel
theorem d_Mod_init_229 : decode prog_14_method_1_code 229 = .ok (.aload_n 0, 1) := by decide +kernel
theorem d_Mod_init_230 : decode prog_14_method_1_code 230 = .ok (.sipush 600, 3) := by decide +kernel
theorem d_Mod_init_233 : decode prog_14_method_1_code 233 = .ok (.newarray .int, 2) := by decide +kernel
theorem d_Mod_init_235 : decode prog_14_method_1_code 235 = .ok (.putfield 96, 3) := by decide +kernel
theorem d_Mod_init_238 : decode prog_14_method_1_code 238 = .ok (.aload_n 0, 1) := by decide +kernel
theorem d_Mod_init_239 : decode prog_14_method_1_code 239 = .ok (.sipush 520, 3) := by decide +kernel
theorem d_Mod_init_242 : decode prog_14_method_1_code 242 = .ok (.newarray .boolean, 2) := by decide +kernel
theorem d_Mod_init_244 : decode prog_14_method_1_code 244 = .ok (.putfield 99, 3) := by decide +kernel
theorem d_Mod_init_247 : decode prog_14_method_1_code 247 = .ok (.aload_n 0, 1) := by decide +kernel
theorem d_Mod_init_248 : decode prog_14_method_1_code 248 = .ok (.sipush 260, 3) := by decide +kernel
theorem d_Mod_init_251 : decode prog_14_method_1_code 251 = .ok (.newarray .boolean, 2) := by decide +kernel
theorem d_Mod_init_253 : decode prog_14_method_1_code 253 = .ok (.putfield 102, 3) := by decide +kernel
theorem d_Mod_init_256 : decode prog_14_method_1_code 256 = .ok (.aload_n 0, 1) := by decide +kernel
theorem d_Mod_init_257 : decode prog_14_method_1_code 257 = .ok (.sipush 260, 3) := by decide +kernel
theorem d_Mod_init_260 : decode prog_14_method_1_code 260 = .ok (.newarray .boolean, 2) := by decide +kernel
theorem d_Mod_init_262 : decode prog_14_method_1_code 262 = .ok (.putfield 105, 3) := by decide +kernel
theorem d_Mod_init_265 : decode prog_14_method_1_code 265 = .ok (.aload_n 0, 1) := by decide +kernel
theorem d_Mod_init_266 : decode prog_14_method_1_code 266 = .ok (.sipush 520, 3) := by decide +kernel
theorem d_Mod_init_269 : decode prog_14_method_1_code 269 = .ok (.newarray .long, 2) := by decide +kernel
theorem d_Mod_init_271 : decode prog_14_method_1_code 271 = .ok (.putfield 108, 3) := by decide +kernel
theorem d_Mod_init_274 : decode prog_14_method_1_code 274 = .ok (.aload_n 0, 1) := by decide +kernel
theorem d_Mod_init_275 : decode prog_14_method_1_code 275 = .ok (.sipush 520, 3) := by decide +kernel
theorem d_Mod_init_278 : decode prog_14_method_1_code 278 = .ok (.newarray .long, 2) := by decide +kernel
theorem d_Mod_init_280 : decode prog_14_method_1_code 280 = .ok (.putfield 112, 3) := by decide +kernel
theorem d_Mod_init_283 : decode prog_14_method_1_code 283 = .ok (.aload_n 0, 1) := by decide +kernel
theorem d_Mod_init_284 : decode prog_14_method_1_code 284 = .ok (.bipush 26, 2) := by decide +kernel
theorem d_Mod_init_286 : decode prog_14_method_1_code 286 = .ok (.newarray .int, 2) := by decide +kernel
theorem d_Mod_init_288 : decode prog_14_method_1_code 288 = .ok (.putfield 115, 3) := by decide +kernel
theorem d_Mod_init_291 : decode prog_14_method_1_code 291 = .ok (.aload_n 0, 1) := by decide +kernel
theorem d_Mod_init_292 : decode prog_14_method_1_code 292 = .ok (.iconst 5, 1) := by decide +kernel
theorem d_Mod_init_293 : decode prog_14_method_1_code 293 = .ok (.newarray .int, 2) := by decide +kernel
theorem d_Mod_init_295 : decode prog_14_method_1_code 295 = .ok (.putfield 118, 3) := by decide +kernel
theorem d_Mod_init_298 : decode prog_14_method_1_code 298 = .ok (.aload_n 0, 1) := by decide +kernel
theorem d_Mod_init_299 : decode prog_14_method_1_code 299 = .ok (.bipush 64, 2) := by decide +kernel
theorem d_Mod_init_301 : decode prog_14_method_1_code 301 = .ok (.newarray .int, 2) := by decide +kernel
theorem d_Mod_init_303 : decode prog_14_method_1_code 303 = .ok (.putfield 121, 3) := by decide +kernel
theorem d_Mod_init_306 : decode prog_14_method_1_code 306 = .ok (.aload_n 0, 1) := by decide +kernel
theorem d_Mod_init_307 : decode prog_14_method_1_code 307 = .ok (.iconst 4, 1) := by decide +kernel
theorem d_Mod_init_308 : decode prog_14_method_1_code 308 = .ok (.newarray .int, 2) := by decide +kernel
theorem d_Mod_init_310 : decode prog_14_method_1_code 310 = .ok (.putfield 124, 3) := by decide +kernel
theorem d_Mod_init_313 : decode prog_14_method_1_code 313 = .ok (.aload_n 0, 1) := by decide +kernel
theorem d_Mod_init_314 : decode prog_14_method_1_code 314 = .ok (.iconst 4, 1) := by decide +kernel
theorem d_Mod_init_315 : decode prog_14_method_1_code 315 = .ok (.newarray .int, 2) := by decide +kernel
theorem d_Mod_init_317 : decode prog_14_method_1_code 317 = .ok (.putfield 127, 3) := by decide +kernel
theorem d_Mod_init_320 : decode prog_14_method_1_code 320 = .ok (.aload_n 0, 1) := by decide +kernel
theorem d_Mod_init_321 : decode prog_14_method_1_code 321 = .ok (.bipush 64, 2) := by decide +kernel
theorem d_Mod_init_323 : decode prog_14_method_1_code 323 = .ok (.newarray .int, 2) := by decide +kernel
theorem d_Mod_init_325 : decode prog_14_method_1_code 325 = .ok (.putfield 130, 3) := by decide +kernel
theorem d_Mod_init_328 : decode prog_14_method_1_code 328 = .ok (.aload_n 0, 1) := by decide +kernel
theorem d_Mod_init_329 : decode prog_14_method_1_code 329 = .ok (.bipush 64, 2) := by decide +kernel
theorem d_Mod_init_331 : decode prog_14_method_1_code 331 = .ok (.newarray .int, 2) := by decide +kernel
theorem d_Mod_init_333 : decode prog_14_method_1_code 333 = .ok (.putfield 133, 3) := by decide +kernel
theorem d_Mod_init_336 : decode prog_14_method_1_code 336 = .ok (.aload_n 0, 1) := by decide +kernel
theorem d_Mod_init_337 : decode prog_14_method_1_code 337 = .ok (.sipush 400, 3) := by decide +kernel
theorem d_Mod_init_340 : decode prog_14_method_1_code 340 = .ok (.newarray .int, 2) := by decide +kernel
theorem d_Mod_init_342 : decode prog_14_method_1_code 342 = .ok (.putfield 136, 3) := by decide +kernel
theorem d_Mod_init_345 : decode prog_14_method_1_code 345 = .ok (.aload_n 0, 1) := by decide +kernel
theorem d_Mod_init_346 : decode prog_14_method_1_code 346 = .ok (.sipush 200, 3) := by decide +kernel
theorem d_Mod_init_349 : decode prog_14_method_1_code 349 = .ok (.newarray .int, 2) := by decide +kernel
theorem d_Mod_init_351 : decode prog_14_method_1_code 351 = .ok (.putfield 139, 3) := by decide +kernel
theorem d_Mod_init_354 : decode prog_14_method_1_code 354 = .ok (.aload_n 0, 1) := by decide +kernel
theorem d_Mod_init_355 : decode prog_14_method_1_code 355 = .ok (.sipush 600, 3) := by decide +kernel
theorem d_Mod_init_358 : decode prog_14_method_1_code 358 = .ok (.newarray .int, 2) := by decide +kernel
theorem d_Mod_init_360 : decode prog_14_method_1_code 360 = .ok (.putfield 142, 3) := by decide +kernel
theorem d_Mod_init_363 : decode prog_14_method_1_code 363 = .ok (.aload_n 0, 1) := by decide +kernel
theorem d_Mod_init_364 : decode prog_14_method_1_code 364 = .ok (.bipush 40, 2) := by decide +kernel
theorem d_Mod_init_366 : decode prog_14_method_1_code 366 = .ok (.newarray .int, 2) := by decide +kernel
theorem d_Mod_init_368 : decode prog_14_method_1_code 368 = .ok (.putfield 145, 3) := by decide +kernel
theorem d_Mod_init_371 : decode prog_14_method_1_code 371 = .ok (.aload_n 0, 1) := by decide +kernel
theorem d_Mod_init_372 : decode prog_14_method_1_code 372 = .ok (.bipush 40, 2) := by decide +kernel
theorem d_Mod_init_374 : decode prog_14_method_1_code 374 = .ok (.newarray .boolean, 2) := by decide +kernel
theorem d_Mod_init_376 : decode prog_14_method_1_code 376 = .ok (.putfield 148, 3) := by decide +kernel
theorem d_Mod_init_379 : decode prog_14_method_1_code 379 = .ok (.return_, 1) := by decide +kernel
theorem d_Addr_init_0 : decode prog_2_method_1_code 0 = .ok (.aload_n 0, 1) := by decide +kernel
theorem d_Addr_init_1 : decode prog_2_method_1_code 1 = .ok (.invokespecial 1, 3) := by decide +kernel
theorem d_Addr_init_4 : decode prog_2_method_1_code 4 = .ok (.aload_n 0, 1) := by decide +kernel
theorem d_Addr_init_5 : decode prog_2_method_1_code 5 = .ok (.new 7, 3) := by decide +kernel
theorem d_Addr_init_8 : decode prog_2_method_1_code 8 = .ok (.dup, 1) := by decide +kernel
theorem d_Addr_init_9 : decode prog_2_method_1_code 9 = .ok (.invokespecial 9, 3) := by decide +kernel
theorem d_Addr_init_12 : decode prog_2_method_1_code 12 = .ok (.putfield 10, 3) := by decide +kernel
theorem d_Addr_init_15 : decode prog_2_method_1_code 15 = .ok (.return_, 1) := by decide +kernel
theorem d_Cmd_init_0 : decode prog_3_method_1_code 0 = .ok (.aload_n 0, 1) := by decide +kernel
theorem d_Cmd_init_1 : decode prog_3_method_1_code 1 = .ok (.invokespecial 3, 3) := by decide +kernel
theorem d_Cmd_init_4 : decode prog_3_method_1_code 4 = .ok (.aload_n 0, 1) := by decide +kernel
theorem d_Cmd_init_5 : decode prog_3_method_1_code 5 = .ok (.new 9, 3) := by decide +kernel
theorem d_Cmd_init_8 : decode prog_3_method_1_code 8 = .ok (.dup, 1) := by decide +kernel
theorem d_Cmd_init_9 : decode prog_3_method_1_code 9 = .ok (.invokespecial 11, 3) := by decide +kernel
theorem d_Cmd_init_12 : decode prog_3_method_1_code 12 = .ok (.putfield 12, 3) := by decide +kernel
theorem d_Cmd_init_15 : decode prog_3_method_1_code 15 = .ok (.aload_n 0, 1) := by decide +kernel
theorem d_Cmd_init_16 : decode prog_3_method_1_code 16 = .ok (.new 9, 3) := by decide +kernel
theorem d_Cmd_init_19 : decode prog_3_method_1_code 19 = .ok (.dup, 1) := by decide +kernel
theorem d_Cmd_init_20 : decode prog_3_method_1_code 20 = .ok (.invokespecial 11, 3) := by decide +kernel
theorem d_Cmd_init_23 : decode prog_3_method_1_code 23 = .ok (.putfield 18, 3) := by decide +kernel
theorem d_Cmd_init_26 : decode prog_3_method_1_code 26 = .ok (.aload_n 0, 1) := by decide +kernel
theorem d_Cmd_init_27 : decode prog_3_method_1_code 27 = .ok (.new 21, 3) := by decide +kernel
theorem d_Cmd_init_30 : decode prog_3_method_1_code 30 = .ok (.dup, 1) := by decide +kernel
theorem d_Cmd_init_31 : decode prog_3_method_1_code 31 = .ok (.invokespecial 23, 3) := by decide +kernel
theorem d_Cmd_init_34 : decode prog_3_method_1_code 34 = .ok (.putfield 24, 3) := by decide +kernel
theorem d_Cmd_init_37 : decode prog_3_method_1_code 37 = .ok (.return_, 1) := by decide +kernel
theorem d_Cur_init_0 : decode prog_4_method_1_code 0 = .ok (.aload_n 0, 1) := by decide +kernel
theorem d_Cur_init_1 : decode prog_4_method_1_code 1 = .ok (.invokespecial 3, 3) := by decide +kernel
theorem d_Cur_init_4 : decode prog_4_method_1_code 4 = .ok (.return_, 1) := by decide +kernel
theorem d_Ed_init_0 : decode prog_5_method_1_code 0 = .ok (.aload_n 0, 1) := by decide +kernel
theorem d_Ed_init_1 : decode prog_5_method_1_code 1 = .ok (.invokespecial 3, 3) := by decide +kernel
theorem d_Ed_init_4 : decode prog_5_method_1_code 4 = .ok (.aload_n 0, 1) := by decide +kernel
theorem d_Ed_init_5 : decode prog_5_method_1_code 5 = .ok (.new 9, 3) := by decide +kernel
theorem d_Ed_init_8 : decode prog_5_method_1_code 8 = .ok (.dup, 1) := by decide +kernel
theorem d_Ed_init_9 : decode prog_5_method_1_code 9 = .ok (.sipush 600, 3) := by decide +kernel
theorem d_Ed_init_12 : decode prog_5_method_1_code 12 = .ok (.invokespecial 11, 3) := by decide +kernel
theorem d_Ed_init_15 : decode prog_5_method_1_code 15 = .ok (.putfield 14, 3) := by decide +kernel
theorem d_Ed_init_18 : decode prog_5_method_1_code 18 = .ok (.aload_n 0, 1) := by decide +kernel
theorem d_Ed_init_19 : decode prog_5_method_1_code 19 = .ok (.new 9, 3) := by decide +kernel
theorem d_Ed_init_22 : decode prog_5_method_1_code 22 = .ok (.dup, 1) := by decide +kernel
theorem d_Ed_init_23 : decode prog_5_method_1_code 23 = .ok (.bipush 60, 2) := by decide +kernel
theorem d_Ed_init_25 : decode prog_5_method_1_code 25 = .ok (.invokespecial 11, 3) := by decide +kernel
theorem d_Ed_init_28 : decode prog_5_method_1_code 28 = .ok (.putfield 20, 3) := by decide +kernel
theorem d_Ed_init_31 : decode prog_5_method_1_code 31 = .ok (.aload_n 0, 1) := by decide +kernel
theorem d_Ed_init_32 : decode prog_5_method_1_code 32 = .ok (.new 9, 3) := by decide +kernel
theorem d_Ed_init_35 : decode prog_5_method_1_code 35 = .ok (.dup, 1) := by decide +kernel
theorem d_Ed_init_36 : decode prog_5_method_1_code 36 = .ok (.bipush 60, 2) := by decide +kernel
theorem d_Ed_init_38 : decode prog_5_method_1_code 38 = .ok (.invokespecial 11, 3) := by decide +kernel
theorem d_Ed_init_41 : decode prog_5_method_1_code 41 = .ok (.putfield 23, 3) := by decide +kernel
theorem d_Ed_init_44 : decode prog_5_method_1_code 44 = .ok (.aload_n 0, 1) := by decide +kernel
theorem d_Ed_init_45 : decode prog_5_method_1_code 45 = .ok (.new 9, 3) := by decide +kernel
theorem d_Ed_init_48 : decode prog_5_method_1_code 48 = .ok (.dup, 1) := by decide +kernel
theorem d_Ed_init_49 : decode prog_5_method_1_code 49 = .ok (.sipush 200, 3) := by decide +kernel
theorem d_Ed_init_52 : decode prog_5_method_1_code 52 = .ok (.invokespecial 11, 3) := by decide +kernel
theorem d_Ed_init_55 : decode prog_5_method_1_code 55 = .ok (.putfield 26, 3) := by decide +kernel
theorem d_Ed_init_58 : decode prog_5_method_1_code 58 = .ok (.aload_n 0, 1) := by decide +kernel
theorem d_Ed_init_59 : decode prog_5_method_1_code 59 = .ok (.new 29, 3) := by decide +kernel
theorem d_Ed_init_62 : decode prog_5_method_1_code 62 = .ok (.dup, 1) := by decide +kernel
theorem d_Ed_init_63 : decode prog_5_method_1_code 63 = .ok (.invokespecial 31, 3) := by decide +kernel
theorem d_Ed_init_66 : decode prog_5_method_1_code 66 = .ok (.putfield 32, 3) := by decide +kernel
theorem d_Ed_init_69 : decode prog_5_method_1_code 69 = .ok (.aload_n 0, 1) := by decide +kernel
theorem d_Ed_init_70 : decode prog_5_method_1_code 70 = .ok (.new 9, 3) := by decide +kernel
theorem d_Ed_init_73 : decode prog_5_method_1_code 73 = .ok (.dup, 1) := by decide +kernel
theorem d_Ed_init_74 : decode prog_5_method_1_code 74 = .ok (.bipush 60, 2) := by decide +kernel
theorem d_Ed_init_76 : decode prog_5_method_1_code 76 = .ok (.invokespecial 11, 3) := by decide +kernel
theorem d_Ed_init_79 : decode prog_5_method_1_code 79 = .ok (.putfield 36, 3) := by decide +kernel
theorem d_Ed_init_82 : decode prog_5_method_1_code 82 = .ok (.return_, 1) := by decide +kernel
theorem d_It_init_0 : decode prog_6_method_1_code 0 = .ok (.aload_n 0, 1) := by decide +kernel
theorem d_It_init_1 : decode prog_6_method_1_code 1 = .ok (.invokespecial 3, 3) := by decide +kernel
theorem d_It_init_4 : decode prog_6_method_1_code 4 = .ok (.aload_n 0, 1) := by decide +kernel
theorem d_It_init_5 : decode prog_6_method_1_code 5 = .ok (.sipush 240, 3) := by decide +kernel
theorem d_It_init_8 : decode prog_6_method_1_code 8 = .ok (.newarray .int, 2) := by decide +kernel
theorem d_It_init_10 : decode prog_6_method_1_code 10 = .ok (.putfield 9, 3) := by decide +kernel
theorem d_It_init_13 : decode prog_6_method_1_code 13 = .ok (.aload_n 0, 1) := by decide +kernel
theorem d_It_init_14 : decode prog_6_method_1_code 14 = .ok (.sipush 240, 3) := by decide +kernel
theorem d_It_init_17 : decode prog_6_method_1_code 17 = .ok (.newarray .int, 2) := by decide +kernel
theorem d_It_init_19 : decode prog_6_method_1_code 19 = .ok (.putfield 15, 3) := by decide +kernel
theorem d_It_init_22 : decode prog_6_method_1_code 22 = .ok (.aload_n 0, 1) := by decide +kernel
theorem d_It_init_23 : decode prog_6_method_1_code 23 = .ok (.sipush 240, 3) := by decide +kernel
theorem d_It_init_26 : decode prog_6_method_1_code 26 = .ok (.newarray .long, 2) := by decide +kernel
theorem d_It_init_28 : decode prog_6_method_1_code 28 = .ok (.putfield 18, 3) := by decide +kernel
theorem d_It_init_31 : decode prog_6_method_1_code 31 = .ok (.aload_n 0, 1) := by decide +kernel
theorem d_It_init_32 : decode prog_6_method_1_code 32 = .ok (.sipush 240, 3) := by decide +kernel
theorem d_It_init_35 : decode prog_6_method_1_code 35 = .ok (.newarray .long, 2) := by decide +kernel
theorem d_It_init_37 : decode prog_6_method_1_code 37 = .ok (.putfield 22, 3) := by decide +kernel
theorem d_It_init_40 : decode prog_6_method_1_code 40 = .ok (.return_, 1) := by decide +kernel
theorem d_Ma_init_0 : decode prog_7_method_1_code 0 = .ok (.aload_n 0, 1) := by decide +kernel
theorem d_Ma_init_1 : decode prog_7_method_1_code 1 = .ok (.invokespecial 3, 3) := by decide +kernel
theorem d_Ma_init_4 : decode prog_7_method_1_code 4 = .ok (.aload_n 0, 1) := by decide +kernel
theorem d_Ma_init_5 : decode prog_7_method_1_code 5 = .ok (.iconst 4, 1) := by decide +kernel
theorem d_Ma_init_6 : decode prog_7_method_1_code 6 = .ok (.newarray .int, 2) := by decide +kernel
theorem d_Ma_init_8 : decode prog_7_method_1_code 8 = .ok (.putfield 9, 3) := by decide +kernel
theorem d_Ma_init_11 : decode prog_7_method_1_code 11 = .ok (.aload_n 0, 1) := by decide +kernel
theorem d_Ma_init_12 : decode prog_7_method_1_code 12 = .ok (.iconst 4, 1) := by decide +kernel
theorem d_Ma_init_13 : decode prog_7_method_1_code 13 = .ok (.newarray .int, 2) := by decide +kernel
theorem d_Ma_init_15 : decode prog_7_method_1_code 15 = .ok (.putfield 15, 3) := by decide +kernel
theorem d_Ma_init_18 : decode prog_7_method_1_code 18 = .ok (.aload_n 0, 1) := by decide +kernel
theorem d_Ma_init_19 : decode prog_7_method_1_code 19 = .ok (.iconst 4, 1) := by decide +kernel
theorem d_Ma_init_20 : decode prog_7_method_1_code 20 = .ok (.newarray .int, 2) := by decide +kernel
theorem d_Ma_init_22 : decode prog_7_method_1_code 22 = .ok (.putfield 18, 3) := by decide +kernel
theorem d_Ma_init_25 : decode prog_7_method_1_code 25 = .ok (.aload_n 0, 1) := by decide +kernel
theorem d_Ma_init_26 : decode prog_7_method_1_code 26 = .ok (.iconst 4, 1) := by decide +kernel
theorem d_Ma_init_27 : decode prog_7_method_1_code 27 = .ok (.newarray .int, 2) := by decide +kernel
theorem d_Ma_init_29 : decode prog_7_method_1_code 29 = .ok (.putfield 21, 3) := by decide +kernel
theorem d_Ma_init_32 : decode prog_7_method_1_code 32 = .ok (.return_, 1) := by decide +kernel
theorem d_Pa_init_0 : decode prog_8_method_1_code 0 = .ok (.aload_n 0, 1) := by decide +kernel
theorem d_Pa_init_1 : decode prog_8_method_1_code 1 = .ok (.invokespecial 3, 3) := by decide +kernel
theorem d_Pa_init_4 : decode prog_8_method_1_code 4 = .ok (.aload_n 0, 1) := by decide +kernel
theorem d_Pa_init_5 : decode prog_8_method_1_code 5 = .ok (.new 9, 3) := by decide +kernel
theorem d_Pa_init_8 : decode prog_8_method_1_code 8 = .ok (.dup, 1) := by decide +kernel
theorem d_Pa_init_9 : decode prog_8_method_1_code 9 = .ok (.invokespecial 11, 3) := by decide +kernel
theorem d_Pa_init_12 : decode prog_8_method_1_code 12 = .ok (.putfield 12, 3) := by decide +kernel
theorem d_Pa_init_15 : decode prog_8_method_1_code 15 = .ok (.aload_n 0, 1) := by decide +kernel
theorem d_Pa_init_16 : decode prog_8_method_1_code 16 = .ok (.new 18, 3) := by decide +kernel
theorem d_Pa_init_19 : decode prog_8_method_1_code 19 = .ok (.dup, 1) := by decide +kernel
theorem d_Pa_init_20 : decode prog_8_method_1_code 20 = .ok (.aload_n 0, 1) := by decide +kernel
theorem d_Pa_init_21 : decode prog_8_method_1_code 21 = .ok (.getfield 12, 3) := by decide +kernel
theorem d_Pa_init_24 : decode prog_8_method_1_code 24 = .ok (.invokespecial 20, 3) := by decide +kernel
theorem d_Pa_init_27 : decode prog_8_method_1_code 27 = .ok (.putfield 23, 3) := by decide +kernel
theorem d_Pa_init_30 : decode prog_8_method_1_code 30 = .ok (.aload_n 0, 1) := by decide +kernel
theorem d_Pa_init_31 : decode prog_8_method_1_code 31 = .ok (.iconst 4, 1) := by decide +kernel
theorem d_Pa_init_32 : decode prog_8_method_1_code 32 = .ok (.newarray .int, 2) := by decide +kernel
theorem d_Pa_init_34 : decode prog_8_method_1_code 34 = .ok (.putfield 27, 3) := by decide +kernel
theorem d_Pa_init_37 : decode prog_8_method_1_code 37 = .ok (.aload_n 0, 1) := by decide +kernel
theorem d_Pa_init_38 : decode prog_8_method_1_code 38 = .ok (.bipush 26, 2) := by decide +kernel
theorem d_Pa_init_40 : decode prog_8_method_1_code 40 = .ok (.newarray .int, 2) := by decide +kernel
theorem d_Pa_init_42 : decode prog_8_method_1_code 42 = .ok (.putfield 31, 3) := by decide +kernel
theorem d_Pa_init_45 : decode prog_8_method_1_code 45 = .ok (.return_, 1) := by decide +kernel
theorem d_Pt_init_0 : decode prog_9_method_1_code 0 = .ok (.aload_n 0, 1) := by decide +kernel
theorem d_Pt_init_1 : decode prog_9_method_1_code 1 = .ok (.invokespecial 1, 3) := by decide +kernel
theorem d_Pt_init_4 : decode prog_9_method_1_code 4 = .ok (.return_, 1) := by decide +kernel
theorem d_Pr_init_0 : decode prog_10_method_1_code 0 = .ok (.aload_n 0, 1) := by decide +kernel
theorem d_Pr_init_1 : decode prog_10_method_1_code 1 = .ok (.invokespecial 3, 3) := by decide +kernel
theorem d_Pr_init_4 : decode prog_10_method_1_code 4 = .ok (.aload_n 0, 1) := by decide +kernel
theorem d_Pr_init_5 : decode prog_10_method_1_code 5 = .ok (.aload_n 1, 1) := by decide +kernel
theorem d_Pr_init_6 : decode prog_10_method_1_code 6 = .ok (.putfield 9, 3) := by decide +kernel
theorem d_Pr_init_9 : decode prog_10_method_1_code 9 = .ok (.return_, 1) := by decide +kernel
theorem d_Prog_init_0 : decode prog_11_method_1_code 0 = .ok (.aload_n 0, 1) := by decide +kernel
theorem d_Prog_init_1 : decode prog_11_method_1_code 1 = .ok (.invokespecial 3, 3) := by decide +kernel
theorem d_Prog_init_4 : decode prog_11_method_1_code 4 = .ok (.aload_n 0, 1) := by decide +kernel
theorem d_Prog_init_5 : decode prog_11_method_1_code 5 = .ok (.new 9, 3) := by decide +kernel
theorem d_Prog_init_8 : decode prog_11_method_1_code 8 = .ok (.dup, 1) := by decide +kernel
theorem d_Prog_init_9 : decode prog_11_method_1_code 9 = .ok (.sipush 240, 3) := by decide +kernel
theorem d_Prog_init_12 : decode prog_11_method_1_code 12 = .ok (.invokespecial 11, 3) := by decide +kernel
theorem d_Prog_init_15 : decode prog_11_method_1_code 15 = .ok (.putfield 14, 3) := by decide +kernel
theorem d_Prog_init_18 : decode prog_11_method_1_code 18 = .ok (.aload_n 0, 1) := by decide +kernel
theorem d_Prog_init_19 : decode prog_11_method_1_code 19 = .ok (.new 20, 3) := by decide +kernel
theorem d_Prog_init_22 : decode prog_11_method_1_code 22 = .ok (.dup, 1) := by decide +kernel
theorem d_Prog_init_23 : decode prog_11_method_1_code 23 = .ok (.invokespecial 22, 3) := by decide +kernel
theorem d_Prog_init_26 : decode prog_11_method_1_code 26 = .ok (.putfield 23, 3) := by decide +kernel
theorem d_Prog_init_29 : decode prog_11_method_1_code 29 = .ok (.aload_n 0, 1) := by decide +kernel
theorem d_Prog_init_30 : decode prog_11_method_1_code 30 = .ok (.bipush 40, 2) := by decide +kernel
theorem d_Prog_init_32 : decode prog_11_method_1_code 32 = .ok (.anewarray 27, 3) := by decide +kernel
theorem d_Prog_init_35 : decode prog_11_method_1_code 35 = .ok (.putfield 29, 3) := by decide +kernel
theorem d_Prog_init_38 : decode prog_11_method_1_code 38 = .ok (.iconst 0, 1) := by decide +kernel
theorem d_Prog_init_39 : decode prog_11_method_1_code 39 = .ok (.istore_n 1, 1) := by decide +kernel
theorem d_Prog_init_40 : decode prog_11_method_1_code 40 = .ok (.iload_n 1, 1) := by decide +kernel
theorem d_Prog_init_41 : decode prog_11_method_1_code 41 = .ok (.bipush 40, 2) := by decide +kernel
theorem d_Prog_init_43 : decode prog_11_method_1_code 43 = .ok (.if_icmp .ge 22, 3) := by decide +kernel
theorem d_Prog_init_46 : decode prog_11_method_1_code 46 = .ok (.aload_n 0, 1) := by decide +kernel
theorem d_Prog_init_47 : decode prog_11_method_1_code 47 = .ok (.getfield 29, 3) := by decide +kernel
theorem d_Prog_init_50 : decode prog_11_method_1_code 50 = .ok (.iload_n 1, 1) := by decide +kernel
theorem d_Prog_init_51 : decode prog_11_method_1_code 51 = .ok (.new 27, 3) := by decide +kernel
theorem d_Prog_init_54 : decode prog_11_method_1_code 54 = .ok (.dup, 1) := by decide +kernel
theorem d_Prog_init_55 : decode prog_11_method_1_code 55 = .ok (.invokespecial 33, 3) := by decide +kernel
theorem d_Prog_init_58 : decode prog_11_method_1_code 58 = .ok (.aastore, 1) := by decide +kernel
theorem d_Prog_init_59 : decode prog_11_method_1_code 59 = .ok (.iinc 1 1, 3) := by decide +kernel
theorem d_Prog_init_62 : decode prog_11_method_1_code 62 = .ok (.goto (-22), 3) := by decide +kernel
theorem d_Prog_init_65 : decode prog_11_method_1_code 65 = .ok (.return_, 1) := by decide +kernel
theorem d_Row_init_0 : decode prog_12_method_1_code 0 = .ok (.aload_n 0, 1) := by decide +kernel
theorem d_Row_init_1 : decode prog_12_method_1_code 1 = .ok (.invokespecial 3, 3) := by decide +kernel
theorem d_Row_init_4 : decode prog_12_method_1_code 4 = .ok (.aload_n 0, 1) := by decide +kernel
theorem d_Row_init_5 : decode prog_12_method_1_code 5 = .ok (.iload_n 1, 1) := by decide +kernel
theorem d_Row_init_6 : decode prog_12_method_1_code 6 = .ok (.newarray .char, 2) := by decide +kernel
theorem d_Row_init_8 : decode prog_12_method_1_code 8 = .ok (.putfield 9, 3) := by decide +kernel
theorem d_Row_init_11 : decode prog_12_method_1_code 11 = .ok (.return_, 1) := by decide +kernel
