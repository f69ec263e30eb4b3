theorem d_Law_law_0 : decode code 0 = .ok (.new 8, 3) := by decide +kernel
theorem d_Law_law_3 : decode code 3 = .ok (.dup, 1) := by decide +kernel
theorem d_Law_law_4 : decode code 4 = .ok (.invokespecial 52, 3) := by decide +kernel
theorem d_Law_law_7 : decode code 7 = .ok (.astore_n 1, 1) := by decide +kernel
theorem d_Law_law_8 : decode code 8 = .ok (.new 53, 3) := by decide +kernel
theorem d_Law_law_11 : decode code 11 = .ok (.dup, 1) := by decide +kernel
theorem d_Law_law_12 : decode code 12 = .ok (.invokespecial 55, 3) := by decide +kernel
theorem d_Law_law_15 : decode code 15 = .ok (.astore_n 2, 1) := by decide +kernel
theorem d_Law_law_16 : decode code 16 = .ok (.iconst 1, 1) := by decide +kernel
theorem d_Law_law_17 : decode code 17 = .ok (.newarray .long, 2) := by decide +kernel
theorem d_Law_law_19 : decode code 19 = .ok (.astore_n 3, 1) := by decide +kernel
theorem d_Law_law_20 : decode code 20 = .ok (.iconst 0, 1) := by decide +kernel
theorem d_Law_law_21 : decode code 21 = .ok (.istore 4, 2) := by decide +kernel
theorem d_Law_law_23 : decode code 23 = .ok (.iload 4, 2) := by decide +kernel
theorem d_Law_law_25 : decode code 25 = .ok (.aload_n 0, 1) := by decide +kernel
theorem d_Law_law_26 : decode code 26 = .ok (.arraylength, 1) := by decide +kernel
theorem d_Law_law_27 : decode code 27 = .ok (.iconst 5, 1) := by decide +kernel
theorem d_Law_law_28 : decode code 28 = .ok (.isub, 1) := by decide +kernel
theorem d_Law_law_29 : decode code 29 = .ok (.if_icmp .gt 534, 3) := by decide +kernel
theorem d_Law_law_32 : decode code 32 = .ok (.aload_n 0, 1) := by decide +kernel
theorem d_Law_law_33 : decode code 33 = .ok (.iload 4, 2) := by decide +kernel
theorem d_Law_law_35 : decode code 35 = .ok (.iaload, 1) := by decide +kernel
theorem d_Law_law_36 : decode code 36 = .ok (.bipush 15, 2) := by decide +kernel
theorem d_Law_law_38 : decode code 38 = .ok (.iand, 1) := by decide +kernel
theorem d_Law_law_39 : decode code 39 = .ok (.tableswitch 518 0 10 #[57, 117, 145, 161, 174, 278, 338, 354, 382, 438, 490], 57) := by decide +kernel
theorem d_Law_law_96 : decode code 96 = .ok (.aload_n 1, 1) := by decide +kernel
theorem d_Law_law_97 : decode code 97 = .ok (.aload_n 0, 1) := by decide +kernel
theorem d_Law_law_98 : decode code 98 = .ok (.iload 4, 2) := by decide +kernel
theorem d_Law_law_100 : decode code 100 = .ok (.iconst 1, 1) := by decide +kernel
theorem d_Law_law_101 : decode code 101 = .ok (.iadd, 1) := by decide +kernel
theorem d_Law_law_102 : decode code 102 = .ok (.iaload, 1) := by decide +kernel
theorem d_Law_law_103 : decode code 103 = .ok (.i2l, 1) := by decide +kernel
theorem d_Law_law_104 : decode code 104 = .ok (.bipush 32, 2) := by decide +kernel
theorem d_Law_law_106 : decode code 106 = .ok (.lshl, 1) := by decide +kernel
theorem d_Law_law_107 : decode code 107 = .ok (.aload_n 0, 1) := by decide +kernel
theorem d_Law_law_108 : decode code 108 = .ok (.iload 4, 2) := by decide +kernel
theorem d_Law_law_110 : decode code 110 = .ok (.iconst 2, 1) := by decide +kernel
theorem d_Law_law_111 : decode code 111 = .ok (.iadd, 1) := by decide +kernel
theorem d_Law_law_112 : decode code 112 = .ok (.iaload, 1) := by decide +kernel
theorem d_Law_law_113 : decode code 113 = .ok (.i2l, 1) := by decide +kernel
theorem d_Law_law_114 : decode code 114 = .ok (.ldc2_w 56, 3) := by decide +kernel
theorem d_Law_law_117 : decode code 117 = .ok (.land, 1) := by decide +kernel
theorem d_Law_law_118 : decode code 118 = .ok (.lor, 1) := by decide +kernel
theorem d_Law_law_119 : decode code 119 = .ok (.aload_n 3, 1) := by decide +kernel
theorem d_Law_law_120 : decode code 120 = .ok (.invokestatic 58, 3) := by decide +kernel
theorem d_Law_law_123 : decode code 123 = .ok (.istore 5, 2) := by decide +kernel
theorem d_Law_law_125 : decode code 125 = .ok (.aload_n 2, 1) := by decide +kernel
theorem d_Law_law_126 : decode code 126 = .ok (.aload_n 0, 1) := by decide +kernel
theorem d_Law_law_127 : decode code 127 = .ok (.iload 4, 2) := by decide +kernel
theorem d_Law_law_129 : decode code 129 = .ok (.iconst 1, 1) := by decide +kernel
theorem d_Law_law_130 : decode code 130 = .ok (.iadd, 1) := by decide +kernel
theorem d_Law_law_131 : decode code 131 = .ok (.iaload, 1) := by decide +kernel
theorem d_Law_law_132 : decode code 132 = .ok (.i2l, 1) := by decide +kernel
theorem d_Law_law_133 : decode code 133 = .ok (.bipush 32, 2) := by decide +kernel
theorem d_Law_law_135 : decode code 135 = .ok (.lshl, 1) := by decide +kernel
theorem d_Law_law_136 : decode code 136 = .ok (.aload_n 0, 1) := by decide +kernel
theorem d_Law_law_137 : decode code 137 = .ok (.iload 4, 2) := by decide +kernel
theorem d_Law_law_139 : decode code 139 = .ok (.iconst 2, 1) := by decide +kernel
theorem d_Law_law_140 : decode code 140 = .ok (.iadd, 1) := by decide +kernel
theorem d_Law_law_141 : decode code 141 = .ok (.iaload, 1) := by decide +kernel
theorem d_Law_law_142 : decode code 142 = .ok (.i2l, 1) := by decide +kernel
theorem d_Law_law_143 : decode code 143 = .ok (.ldc2_w 56, 3) := by decide +kernel
theorem d_Law_law_146 : decode code 146 = .ok (.land, 1) := by decide +kernel
theorem d_Law_law_147 : decode code 147 = .ok (.lor, 1) := by decide +kernel
theorem d_Law_law_148 : decode code 148 = .ok (.invokevirtual 63, 3) := by decide +kernel
theorem d_Law_law_151 : decode code 151 = .ok (.istore 6, 2) := by decide +kernel
theorem d_Law_law_153 : decode code 153 = .ok (.goto 404, 3) := by decide +kernel
theorem d_Law_law_156 : decode code 156 = .ok (.aload_n 1, 1) := by decide +kernel
theorem d_Law_law_157 : decode code 157 = .ok (.aload_n 0, 1) := by decide +kernel
theorem d_Law_law_158 : decode code 158 = .ok (.iload 4, 2) := by decide +kernel
theorem d_Law_law_160 : decode code 160 = .ok (.iconst 1, 1) := by decide +kernel
theorem d_Law_law_161 : decode code 161 = .ok (.iadd, 1) := by decide +kernel
theorem d_Law_law_162 : decode code 162 = .ok (.iaload, 1) := by decide +kernel
theorem d_Law_law_163 : decode code 163 = .ok (.aload_n 3, 1) := by decide +kernel
theorem d_Law_law_164 : decode code 164 = .ok (.invokestatic 64, 3) := by decide +kernel
theorem d_Law_law_167 : decode code 167 = .ok (.istore 5, 2) := by decide +kernel
theorem d_Law_law_169 : decode code 169 = .ok (.aload_n 2, 1) := by decide +kernel
theorem d_Law_law_170 : decode code 170 = .ok (.aload_n 0, 1) := by decide +kernel
theorem d_Law_law_171 : decode code 171 = .ok (.iload 4, 2) := by decide +kernel
theorem d_Law_law_173 : decode code 173 = .ok (.iconst 1, 1) := by decide +kernel
theorem d_Law_law_174 : decode code 174 = .ok (.iadd, 1) := by decide +kernel
theorem d_Law_law_175 : decode code 175 = .ok (.iaload, 1) := by decide +kernel
theorem d_Law_law_176 : decode code 176 = .ok (.invokevirtual 67, 3) := by decide +kernel
theorem d_Law_law_179 : decode code 179 = .ok (.istore 6, 2) := by decide +kernel
theorem d_Law_law_181 : decode code 181 = .ok (.goto 376, 3) := by decide +kernel
theorem d_Law_law_184 : decode code 184 = .ok (.aload_n 1, 1) := by decide +kernel
theorem d_Law_law_185 : decode code 185 = .ok (.aload_n 3, 1) := by decide +kernel
theorem d_Law_law_186 : decode code 186 = .ok (.invokestatic 68, 3) := by decide +kernel
theorem d_Law_law_189 : decode code 189 = .ok (.istore 5, 2) := by decide +kernel
theorem d_Law_law_191 : decode code 191 = .ok (.aload_n 2, 1) := by decide +kernel
theorem d_Law_law_192 : decode code 192 = .ok (.invokevirtual 71, 3) := by decide +kernel
theorem d_Law_law_195 : decode code 195 = .ok (.istore 6, 2) := by decide +kernel
theorem d_Law_law_197 : decode code 197 = .ok (.goto 360, 3) := by decide +kernel
theorem d_Law_law_200 : decode code 200 = .ok (.aload_n 1, 1) := by decide +kernel
theorem d_Law_law_201 : decode code 201 = .ok (.invokevirtual 72, 3) := by decide +kernel
theorem d_Law_law_204 : decode code 204 = .ok (.pop, 1) := by decide +kernel
theorem d_Law_law_205 : decode code 205 = .ok (.aload_n 2, 1) := by decide +kernel
theorem d_Law_law_206 : decode code 206 = .ok (.invokevirtual 75, 3) := by decide +kernel
theorem d_Law_law_209 : decode code 209 = .ok (.pop, 1) := by decide +kernel
theorem d_Law_law_210 : decode code 210 = .ok (.goto 347, 3) := by decide +kernel
theorem d_Law_law_213 : decode code 213 = .ok (.aload_n 1, 1) := by decide +kernel
theorem d_Law_law_214 : decode code 214 = .ok (.aload_n 0, 1) := by decide +kernel
theorem d_Law_law_215 : decode code 215 = .ok (.iload 4, 2) := by decide +kernel
theorem d_Law_law_217 : decode code 217 = .ok (.iconst 1, 1) := by decide +kernel
theorem d_Law_law_218 : decode code 218 = .ok (.iadd, 1) := by decide +kernel
theorem d_Law_law_219 : decode code 219 = .ok (.iaload, 1) := by decide +kernel
theorem d_Law_law_220 : decode code 220 = .ok (.i2l, 1) := by decide +kernel
theorem d_Law_law_221 : decode code 221 = .ok (.bipush 32, 2) := by decide +kernel
theorem d_Law_law_223 : decode code 223 = .ok (.lshl, 1) := by decide +kernel
theorem d_Law_law_224 : decode code 224 = .ok (.aload_n 0, 1) := by decide +kernel
theorem d_Law_law_225 : decode code 225 = .ok (.iload 4, 2) := by decide +kernel
theorem d_Law_law_227 : decode code 227 = .ok (.iconst 2, 1) := by decide +kernel
theorem d_Law_law_228 : decode code 228 = .ok (.iadd, 1) := by decide +kernel
theorem d_Law_law_229 : decode code 229 = .ok (.iaload, 1) := by decide +kernel
theorem d_Law_law_230 : decode code 230 = .ok (.i2l, 1) := by decide +kernel
theorem d_Law_law_231 : decode code 231 = .ok (.ldc2_w 56, 3) := by decide +kernel
theorem d_Law_law_234 : decode code 234 = .ok (.land, 1) := by decide +kernel
theorem d_Law_law_235 : decode code 235 = .ok (.lor, 1) := by decide +kernel
theorem d_Law_law_236 : decode code 236 = .ok (.aload_n 0, 1) := by decide +kernel
theorem d_Law_law_237 : decode code 237 = .ok (.iload 4, 2) := by decide +kernel
theorem d_Law_law_239 : decode code 239 = .ok (.iconst 3, 1) := by decide +kernel
theorem d_Law_law_240 : decode code 240 = .ok (.iadd, 1) := by decide +kernel
theorem d_Law_law_241 : decode code 241 = .ok (.iaload, 1) := by decide +kernel
theorem d_Law_law_242 : decode code 242 = .ok (.i2l, 1) := by decide +kernel
theorem d_Law_law_243 : decode code 243 = .ok (.bipush 32, 2) := by decide +kernel
theorem d_Law_law_245 : decode code 245 = .ok (.lshl, 1) := by decide +kernel
theorem d_Law_law_246 : decode code 246 = .ok (.aload_n 0, 1) := by decide +kernel
theorem d_Law_law_247 : decode code 247 = .ok (.iload 4, 2) := by decide +kernel
theorem d_Law_law_249 : decode code 249 = .ok (.iconst 4, 1) := by decide +kernel
theorem d_Law_law_250 : decode code 250 = .ok (.iadd, 1) := by decide +kernel
theorem d_Law_law_251 : decode code 251 = .ok (.iaload, 1) := by decide +kernel
theorem d_Law_law_252 : decode code 252 = .ok (.i2l, 1) := by decide +kernel
theorem d_Law_law_253 : decode code 253 = .ok (.ldc2_w 56, 3) := by decide +kernel
theorem d_Law_law_256 : decode code 256 = .ok (.land, 1) := by decide +kernel
theorem d_Law_law_257 : decode code 257 = .ok (.lor, 1) := by decide +kernel
theorem d_Law_law_258 : decode code 258 = .ok (.aload_n 3, 1) := by decide +kernel
theorem d_Law_law_259 : decode code 259 = .ok (.invokestatic 76, 3) := by decide +kernel
theorem d_Law_law_262 : decode code 262 = .ok (.istore 5, 2) := by decide +kernel
theorem d_Law_law_264 : decode code 264 = .ok (.aload_n 2, 1) := by decide +kernel
theorem d_Law_law_265 : decode code 265 = .ok (.aload_n 0, 1) := by decide +kernel
theorem d_Law_law_266 : decode code 266 = .ok (.iload 4, 2) := by decide +kernel
theorem d_Law_law_268 : decode code 268 = .ok (.iconst 1, 1) := by decide +kernel
theorem d_Law_law_269 : decode code 269 = .ok (.iadd, 1) := by decide +kernel
theorem d_Law_law_270 : decode code 270 = .ok (.iaload, 1) := by decide +kernel
theorem d_Law_law_271 : decode code 271 = .ok (.i2l, 1) := by decide +kernel
theorem d_Law_law_272 : decode code 272 = .ok (.bipush 32, 2) := by decide +kernel
theorem d_Law_law_274 : decode code 274 = .ok (.lshl, 1) := by decide +kernel
theorem d_Law_law_275 : decode code 275 = .ok (.aload_n 0, 1) := by decide +kernel
theorem d_Law_law_276 : decode code 276 = .ok (.iload 4, 2) := by decide +kernel
theorem d_Law_law_278 : decode code 278 = .ok (.iconst 2, 1) := by decide +kernel
theorem d_Law_law_279 : decode code 279 = .ok (.iadd, 1) := by decide +kernel
theorem d_Law_law_280 : decode code 280 = .ok (.iaload, 1) := by decide +kernel
theorem d_Law_law_281 : decode code 281 = .ok (.i2l, 1) := by decide +kernel
theorem d_Law_law_282 : decode code 282 = .ok (.ldc2_w 56, 3) := by decide +kernel
theorem d_Law_law_285 : decode code 285 = .ok (.land, 1) := by decide +kernel
theorem d_Law_law_286 : decode code 286 = .ok (.lor, 1) := by decide +kernel
theorem d_Law_law_287 : decode code 287 = .ok (.aload_n 0, 1) := by decide +kernel
theorem d_Law_law_288 : decode code 288 = .ok (.iload 4, 2) := by decide +kernel
theorem d_Law_law_290 : decode code 290 = .ok (.iconst 3, 1) := by decide +kernel
theorem d_Law_law_291 : decode code 291 = .ok (.iadd, 1) := by decide +kernel
theorem d_Law_law_292 : decode code 292 = .ok (.iaload, 1) := by decide +kernel
theorem d_Law_law_293 : decode code 293 = .ok (.i2l, 1) := by decide +kernel
theorem d_Law_law_294 : decode code 294 = .ok (.bipush 32, 2) := by decide +kernel
theorem d_Law_law_296 : decode code 296 = .ok (.lshl, 1) := by decide +kernel
theorem d_Law_law_297 : decode code 297 = .ok (.aload_n 0, 1) := by decide +kernel
theorem d_Law_law_298 : decode code 298 = .ok (.iload 4, 2) := by decide +kernel
theorem d_Law_law_300 : decode code 300 = .ok (.iconst 4, 1) := by decide +kernel
theorem d_Law_law_301 : decode code 301 = .ok (.iadd, 1) := by decide +kernel
theorem d_Law_law_302 : decode code 302 = .ok (.iaload, 1) := by decide +kernel
theorem d_Law_law_303 : decode code 303 = .ok (.i2l, 1) := by decide +kernel
theorem d_Law_law_304 : decode code 304 = .ok (.ldc2_w 56, 3) := by decide +kernel
theorem d_Law_law_307 : decode code 307 = .ok (.land, 1) := by decide +kernel
theorem d_Law_law_308 : decode code 308 = .ok (.lor, 1) := by decide +kernel
theorem d_Law_law_309 : decode code 309 = .ok (.invokevirtual 79, 3) := by decide +kernel
theorem d_Law_law_312 : decode code 312 = .ok (.istore 6, 2) := by decide +kernel
theorem d_Law_law_314 : decode code 314 = .ok (.goto 243, 3) := by decide +kernel
theorem d_Law_law_317 : decode code 317 = .ok (.aload_n 1, 1) := by decide +kernel
theorem d_Law_law_318 : decode code 318 = .ok (.aload_n 0, 1) := by decide +kernel
theorem d_Law_law_319 : decode code 319 = .ok (.iload 4, 2) := by decide +kernel
theorem d_Law_law_321 : decode code 321 = .ok (.iconst 1, 1) := by decide +kernel
theorem d_Law_law_322 : decode code 322 = .ok (.iadd, 1) := by decide +kernel
theorem d_Law_law_323 : decode code 323 = .ok (.iaload, 1) := by decide +kernel
theorem d_Law_law_324 : decode code 324 = .ok (.i2l, 1) := by decide +kernel
theorem d_Law_law_325 : decode code 325 = .ok (.bipush 32, 2) := by decide +kernel
theorem d_Law_law_327 : decode code 327 = .ok (.lshl, 1) := by decide +kernel
theorem d_Law_law_328 : decode code 328 = .ok (.aload_n 0, 1) := by decide +kernel
theorem d_Law_law_329 : decode code 329 = .ok (.iload 4, 2) := by decide +kernel
theorem d_Law_law_331 : decode code 331 = .ok (.iconst 2, 1) := by decide +kernel
theorem d_Law_law_332 : decode code 332 = .ok (.iadd, 1) := by decide +kernel
theorem d_Law_law_333 : decode code 333 = .ok (.iaload, 1) := by decide +kernel
theorem d_Law_law_334 : decode code 334 = .ok (.i2l, 1) := by decide +kernel
theorem d_Law_law_335 : decode code 335 = .ok (.ldc2_w 56, 3) := by decide +kernel
theorem d_Law_law_338 : decode code 338 = .ok (.land, 1) := by decide +kernel
theorem d_Law_law_339 : decode code 339 = .ok (.lor, 1) := by decide +kernel
theorem d_Law_law_340 : decode code 340 = .ok (.aload_n 3, 1) := by decide +kernel
theorem d_Law_law_341 : decode code 341 = .ok (.invokestatic 80, 3) := by decide +kernel
theorem d_Law_law_344 : decode code 344 = .ok (.istore 5, 2) := by decide +kernel
theorem d_Law_law_346 : decode code 346 = .ok (.aload_n 2, 1) := by decide +kernel
theorem d_Law_law_347 : decode code 347 = .ok (.aload_n 0, 1) := by decide +kernel
theorem d_Law_law_348 : decode code 348 = .ok (.iload 4, 2) := by decide +kernel
theorem d_Law_law_350 : decode code 350 = .ok (.iconst 1, 1) := by decide +kernel
theorem d_Law_law_351 : decode code 351 = .ok (.iadd, 1) := by decide +kernel
theorem d_Law_law_352 : decode code 352 = .ok (.iaload, 1) := by decide +kernel
theorem d_Law_law_353 : decode code 353 = .ok (.i2l, 1) := by decide +kernel
theorem d_Law_law_354 : decode code 354 = .ok (.bipush 32, 2) := by decide +kernel
theorem d_Law_law_356 : decode code 356 = .ok (.lshl, 1) := by decide +kernel
theorem d_Law_law_357 : decode code 357 = .ok (.aload_n 0, 1) := by decide +kernel
theorem d_Law_law_358 : decode code 358 = .ok (.iload 4, 2) := by decide +kernel
theorem d_Law_law_360 : decode code 360 = .ok (.iconst 2, 1) := by decide +kernel
theorem d_Law_law_361 : decode code 361 = .ok (.iadd, 1) := by decide +kernel
theorem d_Law_law_362 : decode code 362 = .ok (.iaload, 1) := by decide +kernel
theorem d_Law_law_363 : decode code 363 = .ok (.i2l, 1) := by decide +kernel
theorem d_Law_law_364 : decode code 364 = .ok (.ldc2_w 56, 3) := by decide +kernel
theorem d_Law_law_367 : decode code 367 = .ok (.land, 1) := by decide +kernel
theorem d_Law_law_368 : decode code 368 = .ok (.lor, 1) := by decide +kernel
theorem d_Law_law_369 : decode code 369 = .ok (.invokevirtual 82, 3) := by decide +kernel
theorem d_Law_law_372 : decode code 372 = .ok (.istore 6, 2) := by decide +kernel
theorem d_Law_law_374 : decode code 374 = .ok (.goto 183, 3) := by decide +kernel
theorem d_Law_law_377 : decode code 377 = .ok (.aload_n 1, 1) := by decide +kernel
theorem d_Law_law_378 : decode code 378 = .ok (.aload_n 3, 1) := by decide +kernel
theorem d_Law_law_379 : decode code 379 = .ok (.invokestatic 83, 3) := by decide +kernel
theorem d_Law_law_382 : decode code 382 = .ok (.istore 5, 2) := by decide +kernel
theorem d_Law_law_384 : decode code 384 = .ok (.aload_n 2, 1) := by decide +kernel
theorem d_Law_law_385 : decode code 385 = .ok (.invokevirtual 85, 3) := by decide +kernel
theorem d_Law_law_388 : decode code 388 = .ok (.istore 6, 2) := by decide +kernel
theorem d_Law_law_390 : decode code 390 = .ok (.goto 167, 3) := by decide +kernel
theorem d_Law_law_393 : decode code 393 = .ok (.aload_n 1, 1) := by decide +kernel
theorem d_Law_law_394 : decode code 394 = .ok (.aload_n 0, 1) := by decide +kernel
theorem d_Law_law_395 : decode code 395 = .ok (.iload 4, 2) := by decide +kernel
theorem d_Law_law_397 : decode code 397 = .ok (.iconst 1, 1) := by decide +kernel
theorem d_Law_law_398 : decode code 398 = .ok (.iadd, 1) := by decide +kernel
theorem d_Law_law_399 : decode code 399 = .ok (.iaload, 1) := by decide +kernel
theorem d_Law_law_400 : decode code 400 = .ok (.aload_n 3, 1) := by decide +kernel
theorem d_Law_law_401 : decode code 401 = .ok (.invokestatic 86, 3) := by decide +kernel
theorem d_Law_law_404 : decode code 404 = .ok (.istore 5, 2) := by decide +kernel
theorem d_Law_law_406 : decode code 406 = .ok (.aload_n 2, 1) := by decide +kernel
theorem d_Law_law_407 : decode code 407 = .ok (.aload_n 0, 1) := by decide +kernel
theorem d_Law_law_408 : decode code 408 = .ok (.iload 4, 2) := by decide +kernel
theorem d_Law_law_410 : decode code 410 = .ok (.iconst 1, 1) := by decide +kernel
theorem d_Law_law_411 : decode code 411 = .ok (.iadd, 1) := by decide +kernel
theorem d_Law_law_412 : decode code 412 = .ok (.iaload, 1) := by decide +kernel
theorem d_Law_law_413 : decode code 413 = .ok (.invokevirtual 88, 3) := by decide +kernel
theorem d_Law_law_416 : decode code 416 = .ok (.istore 6, 2) := by decide +kernel
theorem d_Law_law_418 : decode code 418 = .ok (.goto 139, 3) := by decide +kernel
theorem d_Law_law_421 : decode code 421 = .ok (.aload_n 1, 1) := by decide +kernel
theorem d_Law_law_422 : decode code 422 = .ok (.aload_n 0, 1) := by decide +kernel
theorem d_Law_law_423 : decode code 423 = .ok (.iload 4, 2) := by decide +kernel
theorem d_Law_law_425 : decode code 425 = .ok (.iconst 1, 1) := by decide +kernel
theorem d_Law_law_426 : decode code 426 = .ok (.iadd, 1) := by decide +kernel
theorem d_Law_law_427 : decode code 427 = .ok (.iaload, 1) := by decide +kernel
theorem d_Law_law_428 : decode code 428 = .ok (.aload_n 3, 1) := by decide +kernel
theorem d_Law_law_429 : decode code 429 = .ok (.invokestatic 89, 3) := by decide +kernel
theorem d_Law_law_432 : decode code 432 = .ok (.istore 5, 2) := by decide +kernel
theorem d_Law_law_434 : decode code 434 = .ok (.aload_n 2, 1) := by decide +kernel
theorem d_Law_law_435 : decode code 435 = .ok (.aload_n 0, 1) := by decide +kernel
theorem d_Law_law_436 : decode code 436 = .ok (.iload 4, 2) := by decide +kernel
theorem d_Law_law_438 : decode code 438 = .ok (.iconst 1, 1) := by decide +kernel
theorem d_Law_law_439 : decode code 439 = .ok (.iadd, 1) := by decide +kernel
theorem d_Law_law_440 : decode code 440 = .ok (.iaload, 1) := by decide +kernel
theorem d_Law_law_441 : decode code 441 = .ok (.invokevirtual 91, 3) := by decide +kernel
theorem d_Law_law_444 : decode code 444 = .ok (.istore 6, 2) := by decide +kernel
theorem d_Law_law_446 : decode code 446 = .ok (.aload_n 2, 1) := by decide +kernel
theorem d_Law_law_447 : decode code 447 = .ok (.invokevirtual 92, 3) := by decide +kernel
theorem d_Law_law_450 : decode code 450 = .ok (.iload 5, 2) := by decide +kernel
theorem d_Law_law_452 : decode code 452 = .ok (.if_icmp .eq 5, 3) := by decide +kernel
theorem d_Law_law_455 : decode code 455 = .ok (.iconst 0, 1) := by decide +kernel
theorem d_Law_law_456 : decode code 456 = .ok (.ireturn, 1) := by decide +kernel
theorem d_Law_law_457 : decode code 457 = .ok (.iload 5, 2) := by decide +kernel
theorem d_Law_law_459 : decode code 459 = .ok (.ifCond .ne 15, 3) := by decide +kernel
theorem d_Law_law_462 : decode code 462 = .ok (.aload_n 3, 1) := by decide +kernel
theorem d_Law_law_463 : decode code 463 = .ok (.iconst 0, 1) := by decide +kernel
theorem d_Law_law_464 : decode code 464 = .ok (.laload, 1) := by decide +kernel
theorem d_Law_law_465 : decode code 465 = .ok (.iload 6, 2) := by decide +kernel
theorem d_Law_law_467 : decode code 467 = .ok (.i2l, 1) := by decide +kernel
theorem d_Law_law_468 : decode code 468 = .ok (.lcmp, 1) := by decide +kernel
theorem d_Law_law_469 : decode code 469 = .ok (.ifCond .eq 5, 3) := by decide +kernel
theorem d_Law_law_472 : decode code 472 = .ok (.iconst 0, 1) := by decide +kernel
theorem d_Law_law_473 : decode code 473 = .ok (.ireturn, 1) := by decide +kernel
theorem d_Law_law_474 : decode code 474 = .ok (.goto 83, 3) := by decide +kernel
theorem d_Law_law_477 : decode code 477 = .ok (.aload_n 1, 1) := by decide +kernel
theorem d_Law_law_478 : decode code 478 = .ok (.aload_n 0, 1) := by decide +kernel
theorem d_Law_law_479 : decode code 479 = .ok (.iload 4, 2) := by decide +kernel
theorem d_Law_law_481 : decode code 481 = .ok (.iconst 1, 1) := by decide +kernel
theorem d_Law_law_482 : decode code 482 = .ok (.iadd, 1) := by decide +kernel
theorem d_Law_law_483 : decode code 483 = .ok (.iaload, 1) := by decide +kernel
theorem d_Law_law_484 : decode code 484 = .ok (.aload_n 0, 1) := by decide +kernel
theorem d_Law_law_485 : decode code 485 = .ok (.iload 4, 2) := by decide +kernel
theorem d_Law_law_487 : decode code 487 = .ok (.iconst 2, 1) := by decide +kernel
theorem d_Law_law_488 : decode code 488 = .ok (.iadd, 1) := by decide +kernel
theorem d_Law_law_489 : decode code 489 = .ok (.iaload, 1) := by decide +kernel
theorem d_Law_law_490 : decode code 490 = .ok (.aload_n 0, 1) := by decide +kernel
theorem d_Law_law_491 : decode code 491 = .ok (.iload 4, 2) := by decide +kernel
theorem d_Law_law_493 : decode code 493 = .ok (.iconst 3, 1) := by decide +kernel
theorem d_Law_law_494 : decode code 494 = .ok (.iadd, 1) := by decide +kernel
theorem d_Law_law_495 : decode code 495 = .ok (.iaload, 1) := by decide +kernel
theorem d_Law_law_496 : decode code 496 = .ok (.aload_n 3, 1) := by decide +kernel
theorem d_Law_law_497 : decode code 497 = .ok (.invokestatic 95, 3) := by decide +kernel
theorem d_Law_law_500 : decode code 500 = .ok (.istore 5, 2) := by decide +kernel
theorem d_Law_law_502 : decode code 502 = .ok (.aload_n 2, 1) := by decide +kernel
theorem d_Law_law_503 : decode code 503 = .ok (.aload_n 0, 1) := by decide +kernel
theorem d_Law_law_504 : decode code 504 = .ok (.iload 4, 2) := by decide +kernel
theorem d_Law_law_506 : decode code 506 = .ok (.iconst 1, 1) := by decide +kernel
theorem d_Law_law_507 : decode code 507 = .ok (.iadd, 1) := by decide +kernel
theorem d_Law_law_508 : decode code 508 = .ok (.iaload, 1) := by decide +kernel
theorem d_Law_law_509 : decode code 509 = .ok (.aload_n 0, 1) := by decide +kernel
theorem d_Law_law_510 : decode code 510 = .ok (.iload 4, 2) := by decide +kernel
theorem d_Law_law_512 : decode code 512 = .ok (.iconst 2, 1) := by decide +kernel
theorem d_Law_law_513 : decode code 513 = .ok (.iadd, 1) := by decide +kernel
theorem d_Law_law_514 : decode code 514 = .ok (.iaload, 1) := by decide +kernel
theorem d_Law_law_515 : decode code 515 = .ok (.aload_n 0, 1) := by decide +kernel
theorem d_Law_law_516 : decode code 516 = .ok (.iload 4, 2) := by decide +kernel
theorem d_Law_law_518 : decode code 518 = .ok (.iconst 3, 1) := by decide +kernel
theorem d_Law_law_519 : decode code 519 = .ok (.iadd, 1) := by decide +kernel
theorem d_Law_law_520 : decode code 520 = .ok (.iaload, 1) := by decide +kernel
theorem d_Law_law_521 : decode code 521 = .ok (.invokevirtual 98, 3) := by decide +kernel
theorem d_Law_law_524 : decode code 524 = .ok (.istore 6, 2) := by decide +kernel
theorem d_Law_law_526 : decode code 526 = .ok (.goto 31, 3) := by decide +kernel
theorem d_Law_law_529 : decode code 529 = .ok (.aload_n 1, 1) := by decide +kernel
theorem d_Law_law_530 : decode code 530 = .ok (.aload_n 0, 1) := by decide +kernel
theorem d_Law_law_531 : decode code 531 = .ok (.iload 4, 2) := by decide +kernel
theorem d_Law_law_533 : decode code 533 = .ok (.iconst 1, 1) := by decide +kernel
theorem d_Law_law_534 : decode code 534 = .ok (.iadd, 1) := by decide +kernel
theorem d_Law_law_535 : decode code 535 = .ok (.iaload, 1) := by decide +kernel
theorem d_Law_law_536 : decode code 536 = .ok (.aload_n 3, 1) := by decide +kernel
theorem d_Law_law_537 : decode code 537 = .ok (.invokestatic 99, 3) := by decide +kernel
theorem d_Law_law_540 : decode code 540 = .ok (.istore 5, 2) := by decide +kernel
theorem d_Law_law_542 : decode code 542 = .ok (.aload_n 2, 1) := by decide +kernel
theorem d_Law_law_543 : decode code 543 = .ok (.aload_n 0, 1) := by decide +kernel
theorem d_Law_law_544 : decode code 544 = .ok (.iload 4, 2) := by decide +kernel
theorem d_Law_law_546 : decode code 546 = .ok (.iconst 1, 1) := by decide +kernel
theorem d_Law_law_547 : decode code 547 = .ok (.iadd, 1) := by decide +kernel
theorem d_Law_law_548 : decode code 548 = .ok (.iaload, 1) := by decide +kernel
theorem d_Law_law_549 : decode code 549 = .ok (.invokevirtual 101, 3) := by decide +kernel
theorem d_Law_law_552 : decode code 552 = .ok (.istore 6, 2) := by decide +kernel
theorem d_Law_law_554 : decode code 554 = .ok (.goto 3, 3) := by decide +kernel
theorem d_Law_law_557 : decode code 557 = .ok (.iinc 4 5, 3) := by decide +kernel
theorem d_Law_law_560 : decode code 560 = .ok (.goto (-537), 3) := by decide +kernel
theorem d_Law_law_563 : decode code 563 = .ok (.iconst 1, 1) := by decide +kernel
theorem d_Law_law_564 : decode code 564 = .ok (.ireturn, 1) := by decide +kernel
