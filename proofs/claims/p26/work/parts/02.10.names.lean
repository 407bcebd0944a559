theorem dL_law_47 : decode cL_law 47 = .ok (.iload 10, 2) := by decide +kernel
theorem dL_law_49 : decode cL_law 49 = .ok (.bipush 16, 2) := by decide +kernel
theorem dL_law_51 : decode cL_law 51 = .ok (.idiv, 1) := by decide +kernel
theorem dL_law_52 : decode cL_law 52 = .ok (.istore 11, 2) := by decide +kernel
theorem dL_law_54 : decode cL_law 54 = .ok (.iload 9, 2) := by decide +kernel
theorem dL_law_56 : decode cL_law 56 = .ok (.iconst 3, 1) := by decide +kernel
theorem dL_law_57 : decode cL_law 57 = .ok (.if_icmp .ge 7, 3) := by decide +kernel
theorem dL_law_60 : decode cL_law 60 = .ok (.iconst 0, 1) := by decide +kernel
theorem dL_law_61 : decode cL_law 61 = .ok (.goto 28, 3) := by decide +kernel
theorem dL_law_64 : decode cL_law 64 = .ok (.iload 9, 2) := by decide +kernel
theorem dL_law_66 : decode cL_law 66 = .ok (.iconst 3, 1) := by decide +kernel
theorem dL_law_67 : decode cL_law 67 = .ok (.if_icmp .ne 7, 3) := by decide +kernel
theorem dL_law_70 : decode cL_law 70 = .ok (.iconst 2, 1) := by decide +kernel
theorem dL_law_71 : decode cL_law 71 = .ok (.goto 18, 3) := by decide +kernel
theorem dL_law_74 : decode cL_law 74 = .ok (.iload 9, 2) := by decide +kernel
theorem dL_law_76 : decode cL_law 76 = .ok (.iconst 4, 1) := by decide +kernel
theorem dL_law_77 : decode cL_law 77 = .ok (.if_icmp .ne 7, 3) := by decide +kernel
theorem dL_law_80 : decode cL_law 80 = .ok (.iconst 3, 1) := by decide +kernel
theorem dL_law_81 : decode cL_law 81 = .ok (.goto 8, 3) := by decide +kernel
theorem dL_law_84 : decode cL_law 84 = .ok (.iload 10, 2) := by decide +kernel
theorem dL_law_86 : decode cL_law 86 = .ok (.bipush 16, 2) := by decide +kernel
theorem dL_law_88 : decode cL_law 88 = .ok (.irem, 1) := by decide +kernel
theorem dL_law_89 : decode cL_law 89 = .ok (.istore 12, 2) := by decide +kernel
theorem dL_law_91 : decode cL_law 91 = .ok (.iload 11, 2) := by decide +kernel
theorem dL_law_93 : decode cL_law 93 = .ok (.iload 5, 2) := by decide +kernel
theorem dL_law_95 : decode cL_law 95 = .ok (.iconst 1, 1) := by decide +kernel
theorem dL_law_96 : decode cL_law 96 = .ok (.iadd, 1) := by decide +kernel
theorem dL_law_97 : decode cL_law 97 = .ok (.irem, 1) := by decide +kernel
theorem dL_law_98 : decode cL_law 98 = .ok (.istore 13, 2) := by decide +kernel
theorem dL_law_100 : decode cL_law 100 = .ok (.iload 12, 2) := by decide +kernel
theorem dL_law_102 : decode cL_law 102 = .ok (.ifCond .ne 46, 3) := by decide +kernel
theorem dL_law_105 : decode cL_law 105 = .ok (.iload_n 2, 1) := by decide +kernel
theorem dL_law_106 : decode cL_law 106 = .ok (.iconst 5, 1) := by decide +kernel
theorem dL_law_107 : decode cL_law 107 = .ok (.if_icmp .ge 41, 3) := by decide +kernel
theorem dL_law_110 : decode cL_law 110 = .ok (.aload_n 1, 1) := by decide +kernel
theorem dL_law_111 : decode cL_law 111 = .ok (.iconst 1, 1) := by decide +kernel
theorem dL_law_112 : decode cL_law 112 = .ok (.iload 11, 2) := by decide +kernel
theorem dL_law_114 : decode cL_law 114 = .ok (.sipush 1000, 3) := by decide +kernel
theorem dL_law_117 : decode cL_law 117 = .ok (.irem, 1) := by decide +kernel
theorem dL_law_118 : decode cL_law 118 = .ok (.iadd, 1) := by decide +kernel
theorem dL_law_119 : decode cL_law 119 = .ok (.iload 11, 2) := by decide +kernel
theorem dL_law_121 : decode cL_law 121 = .ok (.sipush 1000, 3) := by decide +kernel
theorem dL_law_124 : decode cL_law 124 = .ok (.idiv, 1) := by decide +kernel
theorem dL_law_125 : decode cL_law 125 = .ok (.bipush 10, 2) := by decide +kernel
theorem dL_law_127 : decode cL_law 127 = .ok (.irem, 1) := by decide +kernel
theorem dL_law_128 : decode cL_law 128 = .ok (.invokestatic 115, 3) := by decide +kernel
theorem dL_law_131 : decode cL_law 131 = .ok (.iload_n 2, 1) := by decide +kernel
theorem dL_law_132 : decode cL_law 132 = .ok (.if_icmp .ne 7, 3) := by decide +kernel
theorem dL_law_135 : decode cL_law 135 = .ok (.iconst 1, 1) := by decide +kernel
theorem dL_law_136 : decode cL_law 136 = .ok (.goto 4, 3) := by decide +kernel
theorem dL_law_139 : decode cL_law 139 = .ok (.iconst 0, 1) := by decide +kernel
theorem dL_law_140 : decode cL_law 140 = .ok (.istore 8, 2) := by decide +kernel
theorem dL_law_142 : decode cL_law 142 = .ok (.iinc 2 1, 3) := by decide +kernel
theorem dL_law_145 : decode cL_law 145 = .ok (.goto 664, 3) := by decide +kernel
theorem dL_law_148 : decode cL_law 148 = .ok (.iload 12, 2) := by decide +kernel
theorem dL_law_150 : decode cL_law 150 = .ok (.iconst 2, 1) := by decide +kernel
theorem dL_law_151 : decode cL_law 151 = .ok (.if_icmp .ge 59, 3) := by decide +kernel
theorem dL_law_154 : decode cL_law 154 = .ok (.aload_n 1, 1) := by decide +kernel
theorem dL_law_155 : decode cL_law 155 = .ok (.iload 11, 2) := by decide +kernel
theorem dL_law_157 : decode cL_law 157 = .ok (.iload_n 2, 1) := by decide +kernel
theorem dL_law_158 : decode cL_law 158 = .ok (.irem, 1) := by decide +kernel
theorem dL_law_159 : decode cL_law 159 = .ok (.iload 11, 2) := by decide +kernel
theorem dL_law_161 : decode cL_law 161 = .ok (.iconst 5, 1) := by decide +kernel
theorem dL_law_162 : decode cL_law 162 = .ok (.idiv, 1) := by decide +kernel
theorem dL_law_163 : decode cL_law 163 = .ok (.bipush 10, 2) := by decide +kernel
theorem dL_law_165 : decode cL_law 165 = .ok (.irem, 1) := by decide +kernel
theorem dL_law_166 : decode cL_law 166 = .ok (.iload 11, 2) := by decide +kernel
theorem dL_law_168 : decode cL_law 168 = .ok (.bipush 50, 2) := by decide +kernel
theorem dL_law_170 : decode cL_law 170 = .ok (.idiv, 1) := by decide +kernel
theorem dL_law_171 : decode cL_law 171 = .ok (.bipush 10, 2) := by decide +kernel
theorem dL_law_173 : decode cL_law 173 = .ok (.irem, 1) := by decide +kernel
theorem dL_law_174 : decode cL_law 174 = .ok (.iconst 1, 1) := by decide +kernel
theorem dL_law_175 : decode cL_law 175 = .ok (.iload 11, 2) := by decide +kernel
theorem dL_law_177 : decode cL_law 177 = .ok (.sipush 500, 3) := by decide +kernel
theorem dL_law_180 : decode cL_law 180 = .ok (.idiv, 1) := by decide +kernel
theorem dL_law_181 : decode cL_law 181 = .ok (.sipush 9000, 3) := by decide +kernel
theorem dL_law_184 : decode cL_law 184 = .ok (.irem, 1) := by decide +kernel
theorem dL_law_185 : decode cL_law 185 = .ok (.iadd, 1) := by decide +kernel
theorem dL_law_186 : decode cL_law 186 = .ok (.iload 13, 2) := by decide +kernel
theorem dL_law_188 : decode cL_law 188 = .ok (.invokestatic 117, 3) := by decide +kernel
theorem dL_law_191 : decode cL_law 191 = .ok (.istore 14, 2) := by decide +kernel
theorem dL_law_193 : decode cL_law 193 = .ok (.iload 14, 2) := by decide +kernel
theorem dL_law_195 : decode cL_law 195 = .ok (.bipush (-101), 2) := by decide +kernel
theorem dL_law_197 : decode cL_law 197 = .ok (.if_icmp .eq 7, 3) := by decide +kernel
theorem dL_law_200 : decode cL_law 200 = .ok (.iconst 1, 1) := by decide +kernel
theorem dL_law_201 : decode cL_law 201 = .ok (.goto 4, 3) := by decide +kernel
theorem dL_law_204 : decode cL_law 204 = .ok (.iconst 0, 1) := by decide +kernel
theorem dL_law_205 : decode cL_law 205 = .ok (.istore 8, 2) := by decide +kernel
theorem dL_law_207 : decode cL_law 207 = .ok (.goto 602, 3) := by decide +kernel
theorem dL_law_210 : decode cL_law 210 = .ok (.iload 12, 2) := by decide +kernel
theorem dL_law_212 : decode cL_law 212 = .ok (.iconst 2, 1) := by decide +kernel
theorem dL_law_213 : decode cL_law 213 = .ok (.if_icmp .ne 51, 3) := by decide +kernel
theorem dL_law_216 : decode cL_law 216 = .ok (.aload_n 1, 1) := by decide +kernel
theorem dL_law_217 : decode cL_law 217 = .ok (.iconst 1, 1) := by decide +kernel
theorem dL_law_218 : decode cL_law 218 = .ok (.iload 11, 2) := by decide +kernel
theorem dL_law_220 : decode cL_law 220 = .ok (.bipush 31, 2) := by decide +kernel
theorem dL_law_222 : decode cL_law 222 = .ok (.irem, 1) := by decide +kernel
theorem dL_law_223 : decode cL_law 223 = .ok (.iadd, 1) := by decide +kernel
theorem dL_law_224 : decode cL_law 224 = .ok (.invokestatic 120, 3) := by decide +kernel
theorem dL_law_227 : decode cL_law 227 = .ok (.istore 14, 2) := by decide +kernel
theorem dL_law_229 : decode cL_law 229 = .ok (.iload 14, 2) := by decide +kernel
theorem dL_law_231 : decode cL_law 231 = .ok (.iload_n 3, 1) := by decide +kernel
theorem dL_law_232 : decode cL_law 232 = .ok (.if_icmp .eq 8, 3) := by decide +kernel
theorem dL_law_235 : decode cL_law 235 = .ok (.iload 14, 2) := by decide +kernel
theorem dL_law_237 : decode cL_law 237 = .ok (.ifCond .ge 7, 3) := by decide +kernel
theorem dL_law_240 : decode cL_law 240 = .ok (.iconst 1, 1) := by decide +kernel
theorem dL_law_241 : decode cL_law 241 = .ok (.goto 4, 3) := by decide +kernel
theorem dL_law_244 : decode cL_law 244 = .ok (.iconst 0, 1) := by decide +kernel
theorem dL_law_245 : decode cL_law 245 = .ok (.istore 8, 2) := by decide +kernel
theorem dL_law_247 : decode cL_law 247 = .ok (.iload_n 3, 1) := by decide +kernel
theorem dL_law_248 : decode cL_law 248 = .ok (.iload 14, 2) := by decide +kernel
theorem dL_law_250 : decode cL_law 250 = .ok (.iload_n 3, 1) := by decide +kernel
theorem dL_law_251 : decode cL_law 251 = .ok (.if_icmp .ne 7, 3) := by decide +kernel
theorem dL_law_254 : decode cL_law 254 = .ok (.iconst 1, 1) := by decide +kernel
theorem dL_law_255 : decode cL_law 255 = .ok (.goto 4, 3) := by decide +kernel
theorem dL_law_258 : decode cL_law 258 = .ok (.iconst 0, 1) := by decide +kernel
theorem dL_law_259 : decode cL_law 259 = .ok (.iadd, 1) := by decide +kernel
theorem dL_law_260 : decode cL_law 260 = .ok (.istore_n 3, 1) := by decide +kernel
theorem dL_law_261 : decode cL_law 261 = .ok (.goto 548, 3) := by decide +kernel
theorem dL_law_264 : decode cL_law 264 = .ok (.iload 12, 2) := by decide +kernel
theorem dL_law_266 : decode cL_law 266 = .ok (.iconst 3, 1) := by decide +kernel
theorem dL_law_267 : decode cL_law 267 = .ok (.if_icmp .ne 40, 3) := by decide +kernel
theorem dL_law_270 : decode cL_law 270 = .ok (.iload_n 3, 1) := by decide +kernel
theorem dL_law_271 : decode cL_law 271 = .ok (.ifCond .le 36, 3) := by decide +kernel
theorem dL_law_274 : decode cL_law 274 = .ok (.iload 4, 2) := by decide +kernel
theorem dL_law_276 : decode cL_law 276 = .ok (.bipush 6, 2) := by decide +kernel
theorem dL_law_278 : decode cL_law 278 = .ok (.if_icmp .ge 29, 3) := by decide +kernel
theorem dL_law_281 : decode cL_law 281 = .ok (.aload_n 1, 1) := by decide +kernel
theorem dL_law_282 : decode cL_law 282 = .ok (.iload 11, 2) := by decide +kernel
theorem dL_law_284 : decode cL_law 284 = .ok (.iload_n 3, 1) := by decide +kernel
theorem dL_law_285 : decode cL_law 285 = .ok (.irem, 1) := by decide +kernel
theorem dL_law_286 : decode cL_law 286 = .ok (.invokestatic 123, 3) := by decide +kernel
theorem dL_law_289 : decode cL_law 289 = .ok (.iload 4, 2) := by decide +kernel
theorem dL_law_291 : decode cL_law 291 = .ok (.if_icmp .ne 7, 3) := by decide +kernel
theorem dL_law_294 : decode cL_law 294 = .ok (.iconst 1, 1) := by decide +kernel
theorem dL_law_295 : decode cL_law 295 = .ok (.goto 4, 3) := by decide +kernel
theorem dL_law_298 : decode cL_law 298 = .ok (.iconst 0, 1) := by decide +kernel
theorem dL_law_299 : decode cL_law 299 = .ok (.istore 8, 2) := by decide +kernel
theorem dL_law_301 : decode cL_law 301 = .ok (.iinc 4 1, 3) := by decide +kernel
theorem dL_law_304 : decode cL_law 304 = .ok (.goto 505, 3) := by decide +kernel
theorem dL_law_307 : decode cL_law 307 = .ok (.iload 12, 2) := by decide +kernel
theorem dL_law_309 : decode cL_law 309 = .ok (.bipush 6, 2) := by decide +kernel
theorem dL_law_311 : decode cL_law 311 = .ok (.if_icmp .ge 61, 3) := by decide +kernel
theorem dL_law_314 : decode cL_law 314 = .ok (.aload_n 1, 1) := by decide +kernel
theorem dL_law_315 : decode cL_law 315 = .ok (.iload 11, 2) := by decide +kernel
theorem dL_law_317 : decode cL_law 317 = .ok (.iload_n 2, 1) := by decide +kernel
theorem dL_law_318 : decode cL_law 318 = .ok (.irem, 1) := by decide +kernel
theorem dL_law_319 : decode cL_law 319 = .ok (.iload 11, 2) := by decide +kernel
theorem dL_law_321 : decode cL_law 321 = .ok (.iconst 5, 1) := by decide +kernel
theorem dL_law_322 : decode cL_law 322 = .ok (.idiv, 1) := by decide +kernel
theorem dL_law_323 : decode cL_law 323 = .ok (.bipush 10, 2) := by decide +kernel
theorem dL_law_325 : decode cL_law 325 = .ok (.irem, 1) := by decide +kernel
theorem dL_law_326 : decode cL_law 326 = .ok (.iload 11, 2) := by decide +kernel
theorem dL_law_328 : decode cL_law 328 = .ok (.bipush 50, 2) := by decide +kernel
theorem dL_law_330 : decode cL_law 330 = .ok (.idiv, 1) := by decide +kernel
theorem dL_law_331 : decode cL_law 331 = .ok (.bipush 10, 2) := by decide +kernel
theorem dL_law_333 : decode cL_law 333 = .ok (.irem, 1) := by decide +kernel
theorem dL_law_334 : decode cL_law 334 = .ok (.iload 11, 2) := by decide +kernel
theorem dL_law_336 : decode cL_law 336 = .ok (.sipush 500, 3) := by decide +kernel
theorem dL_law_339 : decode cL_law 339 = .ok (.idiv, 1) := by decide +kernel
theorem dL_law_340 : decode cL_law 340 = .ok (.sipush 501, 3) := by decide +kernel
theorem dL_law_343 : decode cL_law 343 = .ok (.irem, 1) := by decide +kernel
theorem dL_law_344 : decode cL_law 344 = .ok (.iconst 1, 1) := by decide +kernel
theorem dL_law_345 : decode cL_law 345 = .ok (.iload 11, 2) := by decide +kernel
theorem dL_law_347 : decode cL_law 347 = .ok (.bipush 7, 2) := by decide +kernel
theorem dL_law_349 : decode cL_law 349 = .ok (.idiv, 1) := by decide +kernel
theorem dL_law_350 : decode cL_law 350 = .ok (.bipush 6, 2) := by decide +kernel
theorem dL_law_352 : decode cL_law 352 = .ok (.irem, 1) := by decide +kernel
theorem dL_law_353 : decode cL_law 353 = .ok (.iadd, 1) := by decide +kernel
theorem dL_law_354 : decode cL_law 354 = .ok (.invokestatic 125, 3) := by decide +kernel
theorem dL_law_357 : decode cL_law 357 = .ok (.bipush (-101), 2) := by decide +kernel
theorem dL_law_359 : decode cL_law 359 = .ok (.if_icmp .eq 7, 3) := by decide +kernel
theorem dL_law_362 : decode cL_law 362 = .ok (.iconst 1, 1) := by decide +kernel
theorem dL_law_363 : decode cL_law 363 = .ok (.goto 4, 3) := by decide +kernel
theorem dL_law_366 : decode cL_law 366 = .ok (.iconst 0, 1) := by decide +kernel
theorem dL_law_367 : decode cL_law 367 = .ok (.istore 8, 2) := by decide +kernel
theorem dL_law_369 : decode cL_law 369 = .ok (.goto 440, 3) := by decide +kernel
theorem dL_law_372 : decode cL_law 372 = .ok (.iload 12, 2) := by decide +kernel
theorem dL_law_374 : decode cL_law 374 = .ok (.bipush 9, 2) := by decide +kernel
theorem dL_law_376 : decode cL_law 376 = .ok (.if_icmp .ge 53, 3) := by decide +kernel
theorem dL_law_379 : decode cL_law 379 = .ok (.iload 4, 2) := by decide +kernel
theorem dL_law_381 : decode cL_law 381 = .ok (.ifCond .le 48, 3) := by decide +kernel
theorem dL_law_384 : decode cL_law 384 = .ok (.aload_n 1, 1) := by decide +kernel
theorem dL_law_385 : decode cL_law 385 = .ok (.iload 11, 2) := by decide +kernel
theorem dL_law_387 : decode cL_law 387 = .ok (.iload 4, 2) := by decide +kernel
theorem dL_law_389 : decode cL_law 389 = .ok (.irem, 1) := by decide +kernel
theorem dL_law_390 : decode cL_law 390 = .ok (.iload 13, 2) := by decide +kernel
theorem dL_law_392 : decode cL_law 392 = .ok (.iload 11, 2) := by decide +kernel
theorem dL_law_394 : decode cL_law 394 = .ok (.bipush 6, 2) := by decide +kernel
theorem dL_law_396 : decode cL_law 396 = .ok (.idiv, 1) := by decide +kernel
