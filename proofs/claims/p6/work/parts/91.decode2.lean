theorem dX10_init_0 : decode cX10_init 0 = .ok (.aload_n 0, 1) := by decide +kernel
theorem dX10_init_1 : decode cX10_init 1 = .ok (.invokespecial 1, 3) := by decide +kernel
theorem dX10_init_4 : decode cX10_init 4 = .ok (.aload_n 0, 1) := by decide +kernel
theorem dX10_init_5 : decode cX10_init 5 = .ok (.bipush 16, 2) := by decide +kernel
theorem dX10_init_7 : decode cX10_init 7 = .ok (.newarray .boolean, 2) := by decide +kernel
theorem dX10_init_9 : decode cX10_init 9 = .ok (.putfield 7, 3) := by decide +kernel
theorem dX10_init_12 : decode cX10_init 12 = .ok (.aload_n 0, 1) := by decide +kernel
theorem dX10_init_13 : decode cX10_init 13 = .ok (.bipush 16, 2) := by decide +kernel
theorem dX10_init_15 : decode cX10_init 15 = .ok (.newarray .int, 2) := by decide +kernel
theorem dX10_init_17 : decode cX10_init 17 = .ok (.putfield 13, 3) := by decide +kernel
theorem dX10_init_20 : decode cX10_init 20 = .ok (.aload_n 0, 1) := by decide +kernel
theorem dX10_init_21 : decode cX10_init 21 = .ok (.bipush 16, 2) := by decide +kernel
theorem dX10_init_23 : decode cX10_init 23 = .ok (.newarray .int, 2) := by decide +kernel
theorem dX10_init_25 : decode cX10_init 25 = .ok (.putfield 17, 3) := by decide +kernel
theorem dX10_init_28 : decode cX10_init 28 = .ok (.aload_n 0, 1) := by decide +kernel
theorem dX10_init_29 : decode cX10_init 29 = .ok (.bipush 16, 2) := by decide +kernel
theorem dX10_init_31 : decode cX10_init 31 = .ok (.newarray .int, 2) := by decide +kernel
theorem dX10_init_33 : decode cX10_init 33 = .ok (.putfield 20, 3) := by decide +kernel
theorem dX10_init_36 : decode cX10_init 36 = .ok (.aload_n 0, 1) := by decide +kernel
theorem dX10_init_37 : decode cX10_init 37 = .ok (.bipush 16, 2) := by decide +kernel
theorem dX10_init_39 : decode cX10_init 39 = .ok (.newarray .int, 2) := by decide +kernel
theorem dX10_init_41 : decode cX10_init 41 = .ok (.putfield 23, 3) := by decide +kernel
theorem dX10_init_44 : decode cX10_init 44 = .ok (.aload_n 0, 1) := by decide +kernel
theorem dX10_init_45 : decode cX10_init 45 = .ok (.bipush 16, 2) := by decide +kernel
theorem dX10_init_47 : decode cX10_init 47 = .ok (.newarray .boolean, 2) := by decide +kernel
theorem dX10_init_49 : decode cX10_init 49 = .ok (.putfield 26, 3) := by decide +kernel
theorem dX10_init_52 : decode cX10_init 52 = .ok (.aload_n 0, 1) := by decide +kernel
theorem dX10_init_53 : decode cX10_init 53 = .ok (.bipush 16, 2) := by decide +kernel
theorem dX10_init_55 : decode cX10_init 55 = .ok (.newarray .int, 2) := by decide +kernel
theorem dX10_init_57 : decode cX10_init 57 = .ok (.putfield 29, 3) := by decide +kernel
theorem dX10_init_60 : decode cX10_init 60 = .ok (.aload_n 0, 1) := by decide +kernel
theorem dX10_init_61 : decode cX10_init 61 = .ok (.bipush 16, 2) := by decide +kernel
theorem dX10_init_63 : decode cX10_init 63 = .ok (.newarray .int, 2) := by decide +kernel
theorem dX10_init_65 : decode cX10_init 65 = .ok (.putfield 32, 3) := by decide +kernel
theorem dX10_init_68 : decode cX10_init 68 = .ok (.aload_n 0, 1) := by decide +kernel
theorem dX10_init_69 : decode cX10_init 69 = .ok (.bipush 16, 2) := by decide +kernel
theorem dX10_init_71 : decode cX10_init 71 = .ok (.newarray .int, 2) := by decide +kernel
theorem dX10_init_73 : decode cX10_init 73 = .ok (.putfield 35, 3) := by decide +kernel
theorem dX10_init_76 : decode cX10_init 76 = .ok (.aload_n 0, 1) := by decide +kernel
theorem dX10_init_77 : decode cX10_init 77 = .ok (.bipush 16, 2) := by decide +kernel
theorem dX10_init_79 : decode cX10_init 79 = .ok (.newarray .int, 2) := by decide +kernel
theorem dX10_init_81 : decode cX10_init 81 = .ok (.putfield 38, 3) := by decide +kernel
theorem dX10_init_84 : decode cX10_init 84 = .ok (.aload_n 0, 1) := by decide +kernel
theorem dX10_init_85 : decode cX10_init 85 = .ok (.bipush 16, 2) := by decide +kernel
theorem dX10_init_87 : decode cX10_init 87 = .ok (.newarray .int, 2) := by decide +kernel
theorem dX10_init_89 : decode cX10_init 89 = .ok (.putfield 41, 3) := by decide +kernel
theorem dX10_init_92 : decode cX10_init 92 = .ok (.aload_n 0, 1) := by decide +kernel
theorem dX10_init_93 : decode cX10_init 93 = .ok (.bipush 16, 2) := by decide +kernel
theorem dX10_init_95 : decode cX10_init 95 = .ok (.newarray .int, 2) := by decide +kernel
theorem dX10_init_97 : decode cX10_init 97 = .ok (.putfield 44, 3) := by decide +kernel
theorem dX10_init_100 : decode cX10_init 100 = .ok (.aload_n 0, 1) := by decide +kernel
theorem dX10_init_101 : decode cX10_init 101 = .ok (.bipush 8, 2) := by decide +kernel
theorem dX10_init_103 : decode cX10_init 103 = .ok (.newarray .boolean, 2) := by decide +kernel
theorem dX10_init_105 : decode cX10_init 105 = .ok (.putfield 47, 3) := by decide +kernel
theorem dX10_init_108 : decode cX10_init 108 = .ok (.aload_n 0, 1) := by decide +kernel
theorem dX10_init_109 : decode cX10_init 109 = .ok (.bipush 8, 2) := by decide +kernel
theorem dX10_init_111 : decode cX10_init 111 = .ok (.newarray .int, 2) := by decide +kernel
theorem dX10_init_113 : decode cX10_init 113 = .ok (.putfield 50, 3) := by decide +kernel
theorem dX10_init_116 : decode cX10_init 116 = .ok (.aload_n 0, 1) := by decide +kernel
theorem dX10_init_117 : decode cX10_init 117 = .ok (.bipush 8, 2) := by decide +kernel
theorem dX10_init_119 : decode cX10_init 119 = .ok (.newarray .int, 2) := by decide +kernel
theorem dX10_init_121 : decode cX10_init 121 = .ok (.putfield 53, 3) := by decide +kernel
theorem dX10_init_124 : decode cX10_init 124 = .ok (.aload_n 0, 1) := by decide +kernel
theorem dX10_init_125 : decode cX10_init 125 = .ok (.bipush 8, 2) := by decide +kernel
theorem dX10_init_127 : decode cX10_init 127 = .ok (.newarray .int, 2) := by decide +kernel
theorem dX10_init_129 : decode cX10_init 129 = .ok (.putfield 56, 3) := by decide +kernel
theorem dX10_init_132 : decode cX10_init 132 = .ok (.aload_n 0, 1) := by decide +kernel
theorem dX10_init_133 : decode cX10_init 133 = .ok (.sipush 10240, 3) := by decide +kernel
theorem dX10_init_136 : decode cX10_init 136 = .ok (.newarray .int, 2) := by decide +kernel
theorem dX10_init_138 : decode cX10_init 138 = .ok (.putfield 59, 3) := by decide +kernel
theorem dX10_init_141 : decode cX10_init 141 = .ok (.aload_n 0, 1) := by decide +kernel
theorem dX10_init_142 : decode cX10_init 142 = .ok (.sipush 10240, 3) := by decide +kernel
theorem dX10_init_145 : decode cX10_init 145 = .ok (.newarray .int, 2) := by decide +kernel
theorem dX10_init_147 : decode cX10_init 147 = .ok (.putfield 62, 3) := by decide +kernel
theorem dX10_init_150 : decode cX10_init 150 = .ok (.aload_n 0, 1) := by decide +kernel
theorem dX10_init_151 : decode cX10_init 151 = .ok (.bipush 8, 2) := by decide +kernel
theorem dX10_init_153 : decode cX10_init 153 = .ok (.newarray .boolean, 2) := by decide +kernel
theorem dX10_init_155 : decode cX10_init 155 = .ok (.putfield 65, 3) := by decide +kernel
theorem dX10_init_158 : decode cX10_init 158 = .ok (.aload_n 0, 1) := by decide +kernel
theorem dX10_init_159 : decode cX10_init 159 = .ok (.bipush 8, 2) := by decide +kernel
theorem dX10_init_161 : decode cX10_init 161 = .ok (.newarray .int, 2) := by decide +kernel
theorem dX10_init_163 : decode cX10_init 163 = .ok (.putfield 68, 3) := by decide +kernel
theorem dX10_init_166 : decode cX10_init 166 = .ok (.aload_n 0, 1) := by decide +kernel
theorem dX10_init_167 : decode cX10_init 167 = .ok (.bipush 8, 2) := by decide +kernel
theorem dX10_init_169 : decode cX10_init 169 = .ok (.newarray .int, 2) := by decide +kernel
theorem dX10_init_171 : decode cX10_init 171 = .ok (.putfield 71, 3) := by decide +kernel
theorem dX10_init_174 : decode cX10_init 174 = .ok (.aload_n 0, 1) := by decide +kernel
theorem dX10_init_175 : decode cX10_init 175 = .ok (.bipush 8, 2) := by decide +kernel
theorem dX10_init_177 : decode cX10_init 177 = .ok (.newarray .int, 2) := by decide +kernel
theorem dX10_init_179 : decode cX10_init 179 = .ok (.putfield 74, 3) := by decide +kernel
theorem dX10_init_182 : decode cX10_init 182 = .ok (.aload_n 0, 1) := by decide +kernel
theorem dX10_init_183 : decode cX10_init 183 = .ok (.bipush 8, 2) := by decide +kernel
theorem dX10_init_185 : decode cX10_init 185 = .ok (.newarray .int, 2) := by decide +kernel
theorem dX10_init_187 : decode cX10_init 187 = .ok (.putfield 77, 3) := by decide +kernel
theorem dX10_init_190 : decode cX10_init 190 = .ok (.aload_n 0, 1) := by decide +kernel
theorem dX10_init_191 : decode cX10_init 191 = .ok (.bipush 8, 2) := by decide +kernel
theorem dX10_init_193 : decode cX10_init 193 = .ok (.newarray .int, 2) := by decide +kernel
theorem dX10_init_195 : decode cX10_init 195 = .ok (.putfield 80, 3) := by decide +kernel
theorem dX10_init_198 : decode cX10_init 198 = .ok (.aload_n 0, 1) := by decide +kernel
theorem dX10_init_199 : decode cX10_init 199 = .ok (.bipush 8, 2) := by decide +kernel
theorem dX10_init_201 : decode cX10_init 201 = .ok (.newarray .int, 2) := by decide +kernel
theorem dX10_init_203 : decode cX10_init 203 = .ok (.putfield 83, 3) := by decide +kernel
theorem dX10_init_206 : decode cX10_init 206 = .ok (.aload_n 0, 1) := by decide +kernel
theorem dX10_init_207 : decode cX10_init 207 = .ok (.bipush 8, 2) := by decide +kernel
theorem dX10_init_209 : decode cX10_init 209 = .ok (.newarray .int, 2) := by decide +kernel
theorem dX10_init_211 : decode cX10_init 211 = .ok (.putfield 86, 3) := by decide +kernel
theorem dX10_init_214 : decode cX10_init 214 = .ok (.aload_n 0, 1) := by decide +kernel
theorem dX10_init_215 : decode cX10_init 215 = .ok (.bipush 8, 2) := by decide +kernel
theorem dX10_init_217 : decode cX10_init 217 = .ok (.newarray .int, 2) := by decide +kernel
theorem dX10_init_219 : decode cX10_init 219 = .ok (.putfield 89, 3) := by decide +kernel
theorem dX10_init_222 : decode cX10_init 222 = .ok (.aload_n 0, 1) := by decide +kernel
theorem dX10_init_223 : decode cX10_init 223 = .ok (.bipush 8, 2) := by decide +kernel
theorem dX10_init_225 : decode cX10_init 225 = .ok (.newarray .boolean, 2) := by decide +kernel
theorem dX10_init_227 : decode cX10_init 227 = .ok (.putfield 92, 3) := by decide +kernel
theorem dX10_init_230 : decode cX10_init 230 = .ok (.aload_n 0, 1) := by decide +kernel
theorem dX10_init_231 : decode cX10_init 231 = .ok (.bipush 8, 2) := by decide +kernel
theorem dX10_init_233 : decode cX10_init 233 = .ok (.newarray .boolean, 2) := by decide +kernel
theorem dX10_init_235 : decode cX10_init 235 = .ok (.putfield 95, 3) := by decide +kernel
theorem dX10_init_238 : decode cX10_init 238 = .ok (.aload_n 0, 1) := by decide +kernel
theorem dX10_init_239 : decode cX10_init 239 = .ok (.bipush 8, 2) := by decide +kernel
theorem dX10_init_241 : decode cX10_init 241 = .ok (.newarray .boolean, 2) := by decide +kernel
theorem dX10_init_243 : decode cX10_init 243 = .ok (.putfield 98, 3) := by decide +kernel
theorem dX10_init_246 : decode cX10_init 246 = .ok (.aload_n 0, 1) := by decide +kernel
theorem dX10_init_247 : decode cX10_init 247 = .ok (.bipush 8, 2) := by decide +kernel
theorem dX10_init_249 : decode cX10_init 249 = .ok (.newarray .boolean, 2) := by decide +kernel
theorem dX10_init_251 : decode cX10_init 251 = .ok (.putfield 101, 3) := by decide +kernel
theorem dX10_init_254 : decode cX10_init 254 = .ok (.aload_n 0, 1) := by decide +kernel
theorem dX10_init_255 : decode cX10_init 255 = .ok (.bipush 8, 2) := by decide +kernel
theorem dX10_init_257 : decode cX10_init 257 = .ok (.newarray .int, 2) := by decide +kernel
theorem dX10_init_259 : decode cX10_init 259 = .ok (.putfield 104, 3) := by decide +kernel
theorem dX10_init_262 : decode cX10_init 262 = .ok (.aload_n 0, 1) := by decide +kernel
theorem dX10_init_263 : decode cX10_init 263 = .ok (.bipush 32, 2) := by decide +kernel
theorem dX10_init_265 : decode cX10_init 265 = .ok (.newarray .int, 2) := by decide +kernel
theorem dX10_init_267 : decode cX10_init 267 = .ok (.putfield 107, 3) := by decide +kernel
theorem dX10_init_270 : decode cX10_init 270 = .ok (.aload_n 0, 1) := by decide +kernel
theorem dX10_init_271 : decode cX10_init 271 = .ok (.bipush 8, 2) := by decide +kernel
theorem dX10_init_273 : decode cX10_init 273 = .ok (.newarray .int, 2) := by decide +kernel
theorem dX10_init_275 : decode cX10_init 275 = .ok (.putfield 110, 3) := by decide +kernel
theorem dX10_init_278 : decode cX10_init 278 = .ok (.aload_n 0, 1) := by decide +kernel
theorem dX10_init_279 : decode cX10_init 279 = .ok (.bipush 8, 2) := by decide +kernel
theorem dX10_init_281 : decode cX10_init 281 = .ok (.newarray .boolean, 2) := by decide +kernel
theorem dX10_init_283 : decode cX10_init 283 = .ok (.putfield 113, 3) := by decide +kernel
theorem dX10_init_286 : decode cX10_init 286 = .ok (.aload_n 0, 1) := by decide +kernel
theorem dX10_init_287 : decode cX10_init 287 = .ok (.bipush 8, 2) := by decide +kernel
theorem dX10_init_289 : decode cX10_init 289 = .ok (.newarray .boolean, 2) := by decide +kernel
theorem dX10_init_291 : decode cX10_init 291 = .ok (.putfield 116, 3) := by decide +kernel
theorem dX10_init_294 : decode cX10_init 294 = .ok (.aload_n 0, 1) := by decide +kernel
theorem dX10_init_295 : decode cX10_init 295 = .ok (.sipush 9600, 3) := by decide +kernel
theorem dX10_init_298 : decode cX10_init 298 = .ok (.newarray .int, 2) := by decide +kernel
theorem dX10_init_300 : decode cX10_init 300 = .ok (.putfield 119, 3) := by decide +kernel
theorem dX10_init_303 : decode cX10_init 303 = .ok (.aload_n 0, 1) := by decide +kernel
theorem dX10_init_304 : decode cX10_init 304 = .ok (.sipush 9600, 3) := by decide +kernel
theorem dX10_init_307 : decode cX10_init 307 = .ok (.newarray .int, 2) := by decide +kernel
theorem dX10_init_309 : decode cX10_init 309 = .ok (.putfield 122, 3) := by decide +kernel
theorem dX10_init_312 : decode cX10_init 312 = .ok (.aload_n 0, 1) := by decide +kernel
theorem dX10_init_313 : decode cX10_init 313 = .ok (.bipush 8, 2) := by decide +kernel
theorem dX10_init_315 : decode cX10_init 315 = .ok (.newarray .int, 2) := by decide +kernel
theorem dX10_init_317 : decode cX10_init 317 = .ok (.putfield 125, 3) := by decide +kernel
theorem dX10_init_320 : decode cX10_init 320 = .ok (.aload_n 0, 1) := by decide +kernel
theorem dX10_init_321 : decode cX10_init 321 = .ok (.bipush 8, 2) := by decide +kernel
theorem dX10_init_323 : decode cX10_init 323 = .ok (.newarray .boolean, 2) := by decide +kernel
theorem dX10_init_325 : decode cX10_init 325 = .ok (.putfield 128, 3) := by decide +kernel
theorem dX10_init_328 : decode cX10_init 328 = .ok (.aload_n 0, 1) := by decide +kernel
theorem dX10_init_329 : decode cX10_init 329 = .ok (.bipush 8, 2) := by decide +kernel
theorem dX10_init_331 : decode cX10_init 331 = .ok (.newarray .int, 2) := by decide +kernel
theorem dX10_init_333 : decode cX10_init 333 = .ok (.putfield 131, 3) := by decide +kernel
theorem dX10_init_336 : decode cX10_init 336 = .ok (.aload_n 0, 1) := by decide +kernel
theorem dX10_init_337 : decode cX10_init 337 = .ok (.bipush 8, 2) := by decide +kernel
theorem dX10_init_339 : decode cX10_init 339 = .ok (.newarray .int, 2) := by decide +kernel
theorem dX10_init_341 : decode cX10_init 341 = .ok (.putfield 134, 3) := by decide +kernel
theorem dX10_init_344 : decode cX10_init 344 = .ok (.aload_n 0, 1) := by decide +kernel
theorem dX10_init_345 : decode cX10_init 345 = .ok (.sipush 512, 3) := by decide +kernel
theorem dX10_init_348 : decode cX10_init 348 = .ok (.newarray .int, 2) := by decide +kernel
theorem dX10_init_350 : decode cX10_init 350 = .ok (.putfield 137, 3) := by decide +kernel
theorem dX10_init_353 : decode cX10_init 353 = .ok (.aload_n 0, 1) := by decide +kernel
theorem dX10_init_354 : decode cX10_init 354 = .ok (.sipush 400, 3) := by decide +kernel
theorem dX10_init_357 : decode cX10_init 357 = .ok (.newarray .int, 2) := by decide +kernel
theorem dX10_init_359 : decode cX10_init 359 = .ok (.putfield 140, 3) := by decide +kernel
theorem dX10_init_362 : decode cX10_init 362 = .ok (.aload_n 0, 1) := by decide +kernel
theorem dX10_init_363 : decode cX10_init 363 = .ok (.sipush 640, 3) := by decide +kernel
theorem dX10_init_366 : decode cX10_init 366 = .ok (.newarray .int, 2) := by decide +kernel
theorem dX10_init_368 : decode cX10_init 368 = .ok (.putfield 143, 3) := by decide +kernel
theorem dX10_init_371 : decode cX10_init 371 = .ok (.aload_n 0, 1) := by decide +kernel
theorem dX10_init_372 : decode cX10_init 372 = .ok (.sipush 640, 3) := by decide +kernel
theorem dX10_init_375 : decode cX10_init 375 = .ok (.newarray .int, 2) := by decide +kernel
theorem dX10_init_377 : decode cX10_init 377 = .ok (.putfield 146, 3) := by decide +kernel
theorem dX10_init_380 : decode cX10_init 380 = .ok (.aload_n 0, 1) := by decide +kernel
theorem dX10_init_381 : decode cX10_init 381 = .ok (.iconst 1, 1) := by decide +kernel
theorem dX10_init_382 : decode cX10_init 382 = .ok (.putfield 149, 3) := by decide +kernel
theorem dX10_init_385 : decode cX10_init 385 = .ok (.aload_n 0, 1) := by decide +kernel
theorem dX10_init_386 : decode cX10_init 386 = .ok (.sipush 24000, 3) := by decide +kernel
theorem dX10_init_389 : decode cX10_init 389 = .ok (.newarray .int, 2) := by decide +kernel
theorem dX10_init_391 : decode cX10_init 391 = .ok (.putfield 153, 3) := by decide +kernel
theorem dX10_init_394 : decode cX10_init 394 = .ok (.aload_n 0, 1) := by decide +kernel
theorem dX10_init_395 : decode cX10_init 395 = .ok (.bipush 16, 2) := by decide +kernel
theorem dX10_init_397 : decode cX10_init 397 = .ok (.newarray .int, 2) := by decide +kernel
theorem dX10_init_399 : decode cX10_init 399 = .ok (.putfield 156, 3) := by decide +kernel
theorem dX10_init_402 : decode cX10_init 402 = .ok (.aload_n 0, 1) := by decide +kernel
theorem dX10_init_403 : decode cX10_init 403 = .ok (.bipush 16, 2) := by decide +kernel
theorem dX10_init_405 : decode cX10_init 405 = .ok (.newarray .int, 2) := by decide +kernel
theorem dX10_init_407 : decode cX10_init 407 = .ok (.putfield 159, 3) := by decide +kernel
theorem dX10_init_410 : decode cX10_init 410 = .ok (.aload_n 0, 1) := by decide +kernel
theorem dX10_init_411 : decode cX10_init 411 = .ok (.iload_n 1, 1) := by decide +kernel
theorem dX10_init_412 : decode cX10_init 412 = .ok (.bipush 8, 2) := by decide +kernel
theorem dX10_init_414 : decode cX10_init 414 = .ok (.if_icmp .ge 8, 3) := by decide +kernel
theorem dX10_init_417 : decode cX10_init 417 = .ok (.bipush 8, 2) := by decide +kernel
theorem dX10_init_419 : decode cX10_init 419 = .ok (.goto 15, 3) := by decide +kernel
theorem dX10_init_422 : decode cX10_init 422 = .ok (.iload_n 1, 1) := by decide +kernel
theorem dX10_init_423 : decode cX10_init 423 = .ok (.bipush 40, 2) := by decide +kernel
theorem dX10_init_425 : decode cX10_init 425 = .ok (.if_icmp .le 8, 3) := by decide +kernel
theorem dX10_init_428 : decode cX10_init 428 = .ok (.bipush 40, 2) := by decide +kernel
theorem dX10_init_430 : decode cX10_init 430 = .ok (.goto 4, 3) := by decide +kernel
theorem dX10_init_433 : decode cX10_init 433 = .ok (.iload_n 1, 1) := by decide +kernel
theorem dX10_init_434 : decode cX10_init 434 = .ok (.putfield 162, 3) := by decide +kernel
theorem dX10_init_437 : decode cX10_init 437 = .ok (.aload_n 0, 1) := by decide +kernel
theorem dX10_init_438 : decode cX10_init 438 = .ok (.iload_n 2, 1) := by decide +kernel
theorem dX10_init_439 : decode cX10_init 439 = .ok (.iconst 4, 1) := by decide +kernel
theorem dX10_init_440 : decode cX10_init 440 = .ok (.if_icmp .ge 7, 3) := by decide +kernel
theorem dX10_init_443 : decode cX10_init 443 = .ok (.iconst 4, 1) := by decide +kernel
theorem dX10_init_444 : decode cX10_init 444 = .ok (.goto 15, 3) := by decide +kernel
theorem dX10_init_447 : decode cX10_init 447 = .ok (.iload_n 2, 1) := by decide +kernel
theorem dX10_init_448 : decode cX10_init 448 = .ok (.bipush 16, 2) := by decide +kernel
theorem dX10_init_450 : decode cX10_init 450 = .ok (.if_icmp .le 8, 3) := by decide +kernel
theorem dX10_init_453 : decode cX10_init 453 = .ok (.bipush 16, 2) := by decide +kernel
theorem dX10_init_455 : decode cX10_init 455 = .ok (.goto 4, 3) := by decide +kernel
theorem dX10_init_458 : decode cX10_init 458 = .ok (.iload_n 2, 1) := by decide +kernel
theorem dX10_init_459 : decode cX10_init 459 = .ok (.putfield 166, 3) := by decide +kernel
theorem dX10_init_462 : decode cX10_init 462 = .ok (.iconst 0, 1) := by decide +kernel
theorem dX10_init_463 : decode cX10_init 463 = .ok (.istore_n 3, 1) := by decide +kernel
theorem dX10_init_464 : decode cX10_init 464 = .ok (.iload_n 3, 1) := by decide +kernel
theorem dX10_init_465 : decode cX10_init 465 = .ok (.sipush 640, 3) := by decide +kernel
theorem dX10_init_468 : decode cX10_init 468 = .ok (.if_icmp .ge 17, 3) := by decide +kernel
theorem dX10_init_471 : decode cX10_init 471 = .ok (.aload_n 0, 1) := by decide +kernel
theorem dX10_init_472 : decode cX10_init 472 = .ok (.getfield 143, 3) := by decide +kernel
theorem dX10_init_475 : decode cX10_init 475 = .ok (.iload_n 3, 1) := by decide +kernel
theorem dX10_init_476 : decode cX10_init 476 = .ok (.bipush 32, 2) := by decide +kernel
theorem dX10_init_478 : decode cX10_init 478 = .ok (.iastore, 1) := by decide +kernel
theorem dX10_init_479 : decode cX10_init 479 = .ok (.iinc 3 1, 3) := by decide +kernel
theorem dX10_init_482 : decode cX10_init 482 = .ok (.goto (-18), 3) := by decide +kernel
theorem dX10_init_485 : decode cX10_init 485 = .ok (.aload_n 0, 1) := by decide +kernel
theorem dX10_init_486 : decode cX10_init 486 = .ok (.getfield 7, 3) := by decide +kernel
theorem dX10_init_489 : decode cX10_init 489 = .ok (.iconst 0, 1) := by decide +kernel
theorem dX10_init_490 : decode cX10_init 490 = .ok (.iconst 1, 1) := by decide +kernel
theorem dX10_init_491 : decode cX10_init 491 = .ok (.bastore, 1) := by decide +kernel
theorem dX10_init_492 : decode cX10_init 492 = .ok (.aload_n 0, 1) := by decide +kernel
theorem dX10_init_493 : decode cX10_init 493 = .ok (.getfield 23, 3) := by decide +kernel
theorem dX10_init_496 : decode cX10_init 496 = .ok (.iconst 0, 1) := by decide +kernel
theorem dX10_init_497 : decode cX10_init 497 = .ok (.iconst (-1), 1) := by decide +kernel
theorem dX10_init_498 : decode cX10_init 498 = .ok (.iastore, 1) := by decide +kernel
theorem dX10_init_499 : decode cX10_init 499 = .ok (.aload_n 0, 1) := by decide +kernel
theorem dX10_init_500 : decode cX10_init 500 = .ok (.getfield 38, 3) := by decide +kernel
theorem dX10_init_503 : decode cX10_init 503 = .ok (.iconst 0, 1) := by decide +kernel
theorem dX10_init_504 : decode cX10_init 504 = .ok (.aload_n 0, 1) := by decide +kernel
theorem dX10_init_505 : decode cX10_init 505 = .ok (.getfield 162, 3) := by decide +kernel
theorem dX10_init_508 : decode cX10_init 508 = .ok (.iastore, 1) := by decide +kernel
theorem dX10_init_509 : decode cX10_init 509 = .ok (.aload_n 0, 1) := by decide +kernel
theorem dX10_init_510 : decode cX10_init 510 = .ok (.getfield 41, 3) := by decide +kernel
theorem dX10_init_513 : decode cX10_init 513 = .ok (.iconst 0, 1) := by decide +kernel
theorem dX10_init_514 : decode cX10_init 514 = .ok (.aload_n 0, 1) := by decide +kernel
theorem dX10_init_515 : decode cX10_init 515 = .ok (.getfield 166, 3) := by decide +kernel
theorem dX10_init_518 : decode cX10_init 518 = .ok (.iastore, 1) := by decide +kernel
theorem dX10_init_519 : decode cX10_init 519 = .ok (.aload_n 0, 1) := by decide +kernel
theorem dX10_init_520 : decode cX10_init 520 = .ok (.getfield 47, 3) := by decide +kernel
theorem dX10_init_523 : decode cX10_init 523 = .ok (.iconst 0, 1) := by decide +kernel
theorem dX10_init_524 : decode cX10_init 524 = .ok (.iconst 1, 1) := by decide +kernel
theorem dX10_init_525 : decode cX10_init 525 = .ok (.bastore, 1) := by decide +kernel
theorem dX10_init_526 : decode cX10_init 526 = .ok (.aload_n 0, 1) := by decide +kernel
theorem dX10_init_527 : decode cX10_init 527 = .ok (.iconst 0, 1) := by decide +kernel
theorem dX10_init_528 : decode cX10_init 528 = .ok (.aload_n 0, 1) := by decide +kernel
theorem dX10_init_529 : decode cX10_init 529 = .ok (.getfield 162, 3) := by decide +kernel
theorem dX10_init_532 : decode cX10_init 532 = .ok (.aload_n 0, 1) := by decide +kernel
theorem dX10_init_533 : decode cX10_init 533 = .ok (.getfield 166, 3) := by decide +kernel
theorem dX10_init_536 : decode cX10_init 536 = .ok (.invokevirtual 169, 3) := by decide +kernel
theorem dX10_init_539 : decode cX10_init 539 = .ok (.return_, 1) := by decide +kernel
theorem dX10_thrown_0 : decode cX10_thrown 0 = .ok (.aload_n 0, 1) := by decide +kernel
theorem dX10_thrown_1 : decode cX10_thrown 1 = .ok (.getfield 173, 3) := by decide +kernel
theorem dX10_thrown_4 : decode cX10_thrown 4 = .ok (.ireturn, 1) := by decide +kernel
theorem dX10_noPane_0 : decode cX10_noPane 0 = .ok (.iload_n 1, 1) := by decide +kernel
theorem dX10_noPane_1 : decode cX10_noPane 1 = .ok (.ifCond .lt 18, 3) := by decide +kernel
theorem dX10_noPane_4 : decode cX10_noPane 4 = .ok (.iload_n 1, 1) := by decide +kernel
theorem dX10_noPane_5 : decode cX10_noPane 5 = .ok (.bipush 8, 2) := by decide +kernel
theorem dX10_noPane_7 : decode cX10_noPane 7 = .ok (.if_icmp .ge 12, 3) := by decide +kernel
theorem dX10_noPane_10 : decode cX10_noPane 10 = .ok (.aload_n 0, 1) := by decide +kernel
theorem dX10_noPane_11 : decode cX10_noPane 11 = .ok (.getfield 47, 3) := by decide +kernel
theorem dX10_noPane_14 : decode cX10_noPane 14 = .ok (.iload_n 1, 1) := by decide +kernel
theorem dX10_noPane_15 : decode cX10_noPane 15 = .ok (.baload, 1) := by decide +kernel
theorem dX10_noPane_16 : decode cX10_noPane 16 = .ok (.ifCond .ne 7, 3) := by decide +kernel
theorem dX10_noPane_19 : decode cX10_noPane 19 = .ok (.iconst 1, 1) := by decide +kernel
theorem dX10_noPane_20 : decode cX10_noPane 20 = .ok (.goto 4, 3) := by decide +kernel
theorem dX10_noPane_23 : decode cX10_noPane 23 = .ok (.iconst 0, 1) := by decide +kernel
theorem dX10_noPane_24 : decode cX10_noPane 24 = .ok (.ireturn, 1) := by decide +kernel
theorem dX10_cellOf_0 : decode cX10_cellOf 0 = .ok (.iload_n 0, 1) := by decide +kernel
theorem dX10_cellOf_1 : decode cX10_cellOf 1 = .ok (.iconst 2, 1) := by decide +kernel
theorem dX10_cellOf_2 : decode cX10_cellOf 2 = .ok (.imul, 1) := by decide +kernel
theorem dX10_cellOf_3 : decode cX10_cellOf 3 = .ok (.iload_n 1, 1) := by decide +kernel
theorem dX10_cellOf_4 : decode cX10_cellOf 4 = .ok (.iadd, 1) := by decide +kernel
theorem dX10_cellOf_5 : decode cX10_cellOf 5 = .ok (.bipush 16, 2) := by decide +kernel
theorem dX10_cellOf_7 : decode cX10_cellOf 7 = .ok (.imul, 1) := by decide +kernel
theorem dX10_cellOf_8 : decode cX10_cellOf 8 = .ok (.iload_n 2, 1) := by decide +kernel
theorem dX10_cellOf_9 : decode cX10_cellOf 9 = .ok (.iadd, 1) := by decide +kernel
theorem dX10_cellOf_10 : decode cX10_cellOf 10 = .ok (.bipush 40, 2) := by decide +kernel
theorem dX10_cellOf_12 : decode cX10_cellOf 12 = .ok (.imul, 1) := by decide +kernel
theorem dX10_cellOf_13 : decode cX10_cellOf 13 = .ok (.iload_n 3, 1) := by decide +kernel
theorem dX10_cellOf_14 : decode cX10_cellOf 14 = .ok (.iadd, 1) := by decide +kernel
theorem dX10_cellOf_15 : decode cX10_cellOf 15 = .ok (.ireturn, 1) := by decide +kernel
theorem dX10_shown_0 : decode cX10_shown 0 = .ok (.aload_n 0, 1) := by decide +kernel
theorem dX10_shown_1 : decode cX10_shown 1 = .ok (.getfield 65, 3) := by decide +kernel
theorem dX10_shown_4 : decode cX10_shown 4 = .ok (.iload_n 1, 1) := by decide +kernel
theorem dX10_shown_5 : decode cX10_shown 5 = .ok (.baload, 1) := by decide +kernel
theorem dX10_shown_6 : decode cX10_shown 6 = .ok (.ifCond .eq 7, 3) := by decide +kernel
theorem dX10_shown_9 : decode cX10_shown 9 = .ok (.iconst 1, 1) := by decide +kernel
theorem dX10_shown_10 : decode cX10_shown 10 = .ok (.goto 4, 3) := by decide +kernel
theorem dX10_shown_13 : decode cX10_shown 13 = .ok (.iconst 0, 1) := by decide +kernel
theorem dX10_shown_14 : decode cX10_shown 14 = .ok (.ireturn, 1) := by decide +kernel
theorem dX10_at_0 : decode cX10_at 0 = .ok (.iload_n 1, 1) := by decide +kernel
theorem dX10_at_1 : decode cX10_at 1 = .ok (.aload_n 0, 1) := by decide +kernel
theorem dX10_at_2 : decode cX10_at 2 = .ok (.iload_n 1, 1) := by decide +kernel
theorem dX10_at_3 : decode cX10_at 3 = .ok (.invokevirtual 176, 3) := by decide +kernel
theorem dX10_at_6 : decode cX10_at 6 = .ok (.iload_n 2, 1) := by decide +kernel
theorem dX10_at_7 : decode cX10_at 7 = .ok (.iload_n 3, 1) := by decide +kernel
theorem dX10_at_8 : decode cX10_at 8 = .ok (.invokestatic 180, 3) := by decide +kernel
theorem dX10_at_11 : decode cX10_at 11 = .ok (.ireturn, 1) := by decide +kernel
theorem dX10_blank_0 : decode cX10_blank 0 = .ok (.aload_n 0, 1) := by decide +kernel
theorem dX10_blank_1 : decode cX10_blank 1 = .ok (.getfield 59, 3) := by decide +kernel
theorem dX10_blank_4 : decode cX10_blank 4 = .ok (.iload_n 1, 1) := by decide +kernel
theorem dX10_blank_5 : decode cX10_blank 5 = .ok (.bipush 32, 2) := by decide +kernel
theorem dX10_blank_7 : decode cX10_blank 7 = .ok (.iastore, 1) := by decide +kernel
theorem dX10_blank_8 : decode cX10_blank 8 = .ok (.aload_n 0, 1) := by decide +kernel
theorem dX10_blank_9 : decode cX10_blank 9 = .ok (.getfield 62, 3) := by decide +kernel
theorem dX10_blank_12 : decode cX10_blank 12 = .ok (.iload_n 1, 1) := by decide +kernel
theorem dX10_blank_13 : decode cX10_blank 13 = .ok (.iload_n 2, 1) := by decide +kernel
theorem dX10_blank_14 : decode cX10_blank 14 = .ok (.iastore, 1) := by decide +kernel
theorem dX10_blank_15 : decode cX10_blank 15 = .ok (.return_, 1) := by decide +kernel
theorem dX10_reset_0 : decode cX10_reset 0 = .ok (.iconst 0, 1) := by decide +kernel
theorem dX10_reset_1 : decode cX10_reset 1 = .ok (.istore_n 2, 1) := by decide +kernel
theorem dX10_reset_2 : decode cX10_reset 2 = .ok (.iload_n 2, 1) := by decide +kernel
theorem dX10_reset_3 : decode cX10_reset 3 = .ok (.iconst 2, 1) := by decide +kernel
theorem dX10_reset_4 : decode cX10_reset 4 = .ok (.if_icmp .ge 38, 3) := by decide +kernel
theorem dX10_reset_7 : decode cX10_reset 7 = .ok (.iconst 0, 1) := by decide +kernel
theorem dX10_reset_8 : decode cX10_reset 8 = .ok (.istore_n 3, 1) := by decide +kernel
theorem dX10_reset_9 : decode cX10_reset 9 = .ok (.iload_n 3, 1) := by decide +kernel
theorem dX10_reset_10 : decode cX10_reset 10 = .ok (.sipush 640, 3) := by decide +kernel
theorem dX10_reset_13 : decode cX10_reset 13 = .ok (.if_icmp .ge 23, 3) := by decide +kernel
theorem dX10_reset_16 : decode cX10_reset 16 = .ok (.aload_n 0, 1) := by decide +kernel
theorem dX10_reset_17 : decode cX10_reset 17 = .ok (.iload_n 1, 1) := by decide +kernel
theorem dX10_reset_18 : decode cX10_reset 18 = .ok (.iload_n 2, 1) := by decide +kernel
theorem dX10_reset_19 : decode cX10_reset 19 = .ok (.iconst 0, 1) := by decide +kernel
theorem dX10_reset_20 : decode cX10_reset 20 = .ok (.iconst 0, 1) := by decide +kernel
theorem dX10_reset_21 : decode cX10_reset 21 = .ok (.invokestatic 180, 3) := by decide +kernel
theorem dX10_reset_24 : decode cX10_reset 24 = .ok (.iload_n 3, 1) := by decide +kernel
theorem dX10_reset_25 : decode cX10_reset 25 = .ok (.iadd, 1) := by decide +kernel
theorem dX10_reset_26 : decode cX10_reset 26 = .ok (.iconst 0, 1) := by decide +kernel
theorem dX10_reset_27 : decode cX10_reset 27 = .ok (.invokevirtual 184, 3) := by decide +kernel
theorem dX10_reset_30 : decode cX10_reset 30 = .ok (.iinc 3 1, 3) := by decide +kernel
theorem dX10_reset_33 : decode cX10_reset 33 = .ok (.goto (-24), 3) := by decide +kernel
theorem dX10_reset_36 : decode cX10_reset 36 = .ok (.iinc 2 1, 3) := by decide +kernel
theorem dX10_reset_39 : decode cX10_reset 39 = .ok (.goto (-37), 3) := by decide +kernel
theorem dX10_reset_42 : decode cX10_reset 42 = .ok (.aload_n 0, 1) := by decide +kernel
theorem dX10_reset_43 : decode cX10_reset 43 = .ok (.getfield 65, 3) := by decide +kernel
theorem dX10_reset_46 : decode cX10_reset 46 = .ok (.iload_n 1, 1) := by decide +kernel
theorem dX10_reset_47 : decode cX10_reset 47 = .ok (.iconst 0, 1) := by decide +kernel
theorem dX10_reset_48 : decode cX10_reset 48 = .ok (.bastore, 1) := by decide +kernel
theorem dX10_reset_49 : decode cX10_reset 49 = .ok (.aload_n 0, 1) := by decide +kernel
theorem dX10_reset_50 : decode cX10_reset 50 = .ok (.getfield 68, 3) := by decide +kernel
theorem dX10_reset_53 : decode cX10_reset 53 = .ok (.iload_n 1, 1) := by decide +kernel
theorem dX10_reset_54 : decode cX10_reset 54 = .ok (.iconst 0, 1) := by decide +kernel
theorem dX10_reset_55 : decode cX10_reset 55 = .ok (.iastore, 1) := by decide +kernel
theorem dX10_reset_56 : decode cX10_reset 56 = .ok (.aload_n 0, 1) := by decide +kernel
theorem dX10_reset_57 : decode cX10_reset 57 = .ok (.getfield 71, 3) := by decide +kernel
theorem dX10_reset_60 : decode cX10_reset 60 = .ok (.iload_n 1, 1) := by decide +kernel
theorem dX10_reset_61 : decode cX10_reset 61 = .ok (.iconst 0, 1) := by decide +kernel
theorem dX10_reset_62 : decode cX10_reset 62 = .ok (.iastore, 1) := by decide +kernel
theorem dX10_reset_63 : decode cX10_reset 63 = .ok (.aload_n 0, 1) := by decide +kernel
theorem dX10_reset_64 : decode cX10_reset 64 = .ok (.getfield 74, 3) := by decide +kernel
theorem dX10_reset_67 : decode cX10_reset 67 = .ok (.iload_n 1, 1) := by decide +kernel
theorem dX10_reset_68 : decode cX10_reset 68 = .ok (.iconst 0, 1) := by decide +kernel
theorem dX10_reset_69 : decode cX10_reset 69 = .ok (.iastore, 1) := by decide +kernel
theorem dX10_reset_70 : decode cX10_reset 70 = .ok (.aload_n 0, 1) := by decide +kernel
theorem dX10_reset_71 : decode cX10_reset 71 = .ok (.getfield 77, 3) := by decide +kernel
theorem dX10_reset_74 : decode cX10_reset 74 = .ok (.iload_n 1, 1) := by decide +kernel
theorem dX10_reset_75 : decode cX10_reset 75 = .ok (.iconst 0, 1) := by decide +kernel
theorem dX10_reset_76 : decode cX10_reset 76 = .ok (.iastore, 1) := by decide +kernel
theorem dX10_reset_77 : decode cX10_reset 77 = .ok (.aload_n 0, 1) := by decide +kernel
theorem dX10_reset_78 : decode cX10_reset 78 = .ok (.getfield 80, 3) := by decide +kernel
theorem dX10_reset_81 : decode cX10_reset 81 = .ok (.iload_n 1, 1) := by decide +kernel
theorem dX10_reset_82 : decode cX10_reset 82 = .ok (.iconst 0, 1) := by decide +kernel
theorem dX10_reset_83 : decode cX10_reset 83 = .ok (.iastore, 1) := by decide +kernel
theorem dX10_reset_84 : decode cX10_reset 84 = .ok (.aload_n 0, 1) := by decide +kernel
theorem dX10_reset_85 : decode cX10_reset 85 = .ok (.getfield 83, 3) := by decide +kernel
theorem dX10_reset_88 : decode cX10_reset 88 = .ok (.iload_n 1, 1) := by decide +kernel
theorem dX10_reset_89 : decode cX10_reset 89 = .ok (.iconst 0, 1) := by decide +kernel
theorem dX10_reset_90 : decode cX10_reset 90 = .ok (.iastore, 1) := by decide +kernel
theorem dX10_reset_91 : decode cX10_reset 91 = .ok (.aload_n 0, 1) := by decide +kernel
theorem dX10_reset_92 : decode cX10_reset 92 = .ok (.getfield 86, 3) := by decide +kernel
theorem dX10_reset_95 : decode cX10_reset 95 = .ok (.iload_n 1, 1) := by decide +kernel
theorem dX10_reset_96 : decode cX10_reset 96 = .ok (.iconst 0, 1) := by decide +kernel
theorem dX10_reset_97 : decode cX10_reset 97 = .ok (.iastore, 1) := by decide +kernel
theorem dX10_reset_98 : decode cX10_reset 98 = .ok (.aload_n 0, 1) := by decide +kernel
theorem dX10_reset_99 : decode cX10_reset 99 = .ok (.getfield 89, 3) := by decide +kernel
theorem dX10_reset_102 : decode cX10_reset 102 = .ok (.iload_n 1, 1) := by decide +kernel
theorem dX10_reset_103 : decode cX10_reset 103 = .ok (.aload_n 0, 1) := by decide +kernel
theorem dX10_reset_104 : decode cX10_reset 104 = .ok (.getfield 56, 3) := by decide +kernel
theorem dX10_reset_107 : decode cX10_reset 107 = .ok (.iload_n 1, 1) := by decide +kernel
theorem dX10_reset_108 : decode cX10_reset 108 = .ok (.iaload, 1) := by decide +kernel
theorem dX10_reset_109 : decode cX10_reset 109 = .ok (.iconst 1, 1) := by decide +kernel
theorem dX10_reset_110 : decode cX10_reset 110 = .ok (.isub, 1) := by decide +kernel
theorem dX10_reset_111 : decode cX10_reset 111 = .ok (.iastore, 1) := by decide +kernel
theorem dX10_reset_112 : decode cX10_reset 112 = .ok (.aload_n 0, 1) := by decide +kernel
theorem dX10_reset_113 : decode cX10_reset 113 = .ok (.getfield 92, 3) := by decide +kernel
theorem dX10_reset_116 : decode cX10_reset 116 = .ok (.iload_n 1, 1) := by decide +kernel
theorem dX10_reset_117 : decode cX10_reset 117 = .ok (.iconst 0, 1) := by decide +kernel
theorem dX10_reset_118 : decode cX10_reset 118 = .ok (.bastore, 1) := by decide +kernel
theorem dX10_reset_119 : decode cX10_reset 119 = .ok (.aload_n 0, 1) := by decide +kernel
theorem dX10_reset_120 : decode cX10_reset 120 = .ok (.getfield 95, 3) := by decide +kernel
theorem dX10_reset_123 : decode cX10_reset 123 = .ok (.iload_n 1, 1) := by decide +kernel
theorem dX10_reset_124 : decode cX10_reset 124 = .ok (.iconst 0, 1) := by decide +kernel
theorem dX10_reset_125 : decode cX10_reset 125 = .ok (.bastore, 1) := by decide +kernel
theorem dX10_reset_126 : decode cX10_reset 126 = .ok (.aload_n 0, 1) := by decide +kernel
theorem dX10_reset_127 : decode cX10_reset 127 = .ok (.getfield 98, 3) := by decide +kernel
theorem dX10_reset_130 : decode cX10_reset 130 = .ok (.iload_n 1, 1) := by decide +kernel
theorem dX10_reset_131 : decode cX10_reset 131 = .ok (.iconst 1, 1) := by decide +kernel
theorem dX10_reset_132 : decode cX10_reset 132 = .ok (.bastore, 1) := by decide +kernel
theorem dX10_reset_133 : decode cX10_reset 133 = .ok (.aload_n 0, 1) := by decide +kernel
theorem dX10_reset_134 : decode cX10_reset 134 = .ok (.getfield 101, 3) := by decide +kernel
theorem dX10_reset_137 : decode cX10_reset 137 = .ok (.iload_n 1, 1) := by decide +kernel
theorem dX10_reset_138 : decode cX10_reset 138 = .ok (.iconst 0, 1) := by decide +kernel
theorem dX10_reset_139 : decode cX10_reset 139 = .ok (.bastore, 1) := by decide +kernel
theorem dX10_reset_140 : decode cX10_reset 140 = .ok (.aload_n 0, 1) := by decide +kernel
theorem dX10_reset_141 : decode cX10_reset 141 = .ok (.getfield 104, 3) := by decide +kernel
theorem dX10_reset_144 : decode cX10_reset 144 = .ok (.iload_n 1, 1) := by decide +kernel
theorem dX10_reset_145 : decode cX10_reset 145 = .ok (.iconst 0, 1) := by decide +kernel
theorem dX10_reset_146 : decode cX10_reset 146 = .ok (.iastore, 1) := by decide +kernel
theorem dX10_reset_147 : decode cX10_reset 147 = .ok (.aload_n 0, 1) := by decide +kernel
theorem dX10_reset_148 : decode cX10_reset 148 = .ok (.getfield 125, 3) := by decide +kernel
theorem dX10_reset_151 : decode cX10_reset 151 = .ok (.iload_n 1, 1) := by decide +kernel
theorem dX10_reset_152 : decode cX10_reset 152 = .ok (.iconst 0, 1) := by decide +kernel
theorem dX10_reset_153 : decode cX10_reset 153 = .ok (.iastore, 1) := by decide +kernel
theorem dX10_reset_154 : decode cX10_reset 154 = .ok (.return_, 1) := by decide +kernel
theorem dX10_begin_0 : decode cX10_begin 0 = .ok (.aload_n 0, 1) := by decide +kernel
theorem dX10_begin_1 : decode cX10_begin 1 = .ok (.getfield 53, 3) := by decide +kernel
theorem dX10_begin_4 : decode cX10_begin 4 = .ok (.iload_n 1, 1) := by decide +kernel
theorem dX10_begin_5 : decode cX10_begin 5 = .ok (.iload_n 2, 1) := by decide +kernel
theorem dX10_begin_6 : decode cX10_begin 6 = .ok (.iastore, 1) := by decide +kernel
theorem dX10_begin_7 : decode cX10_begin 7 = .ok (.aload_n 0, 1) := by decide +kernel
theorem dX10_begin_8 : decode cX10_begin 8 = .ok (.getfield 56, 3) := by decide +kernel
theorem dX10_begin_11 : decode cX10_begin 11 = .ok (.iload_n 1, 1) := by decide +kernel
theorem dX10_begin_12 : decode cX10_begin 12 = .ok (.iload_n 3, 1) := by decide +kernel
theorem dX10_begin_13 : decode cX10_begin 13 = .ok (.iastore, 1) := by decide +kernel
theorem dX10_begin_14 : decode cX10_begin 14 = .ok (.aload_n 0, 1) := by decide +kernel
theorem dX10_begin_15 : decode cX10_begin 15 = .ok (.getfield 128, 3) := by decide +kernel
theorem dX10_begin_18 : decode cX10_begin 18 = .ok (.iload_n 1, 1) := by decide +kernel
theorem dX10_begin_19 : decode cX10_begin 19 = .ok (.iconst 0, 1) := by decide +kernel
theorem dX10_begin_20 : decode cX10_begin 20 = .ok (.bastore, 1) := by decide +kernel
theorem dX10_begin_21 : decode cX10_begin 21 = .ok (.aload_n 0, 1) := by decide +kernel
theorem dX10_begin_22 : decode cX10_begin 22 = .ok (.getfield 131, 3) := by decide +kernel
theorem dX10_begin_25 : decode cX10_begin 25 = .ok (.iload_n 1, 1) := by decide +kernel
theorem dX10_begin_26 : decode cX10_begin 26 = .ok (.iconst 0, 1) := by decide +kernel
theorem dX10_begin_27 : decode cX10_begin 27 = .ok (.iastore, 1) := by decide +kernel
theorem dX10_begin_28 : decode cX10_begin 28 = .ok (.aload_n 0, 1) := by decide +kernel
theorem dX10_begin_29 : decode cX10_begin 29 = .ok (.getfield 134, 3) := by decide +kernel
theorem dX10_begin_32 : decode cX10_begin 32 = .ok (.iload_n 1, 1) := by decide +kernel
theorem dX10_begin_33 : decode cX10_begin 33 = .ok (.iconst 0, 1) := by decide +kernel
theorem dX10_begin_34 : decode cX10_begin 34 = .ok (.iastore, 1) := by decide +kernel
theorem dX10_begin_35 : decode cX10_begin 35 = .ok (.aload_n 0, 1) := by decide +kernel
theorem dX10_begin_36 : decode cX10_begin 36 = .ok (.iload_n 1, 1) := by decide +kernel
theorem dX10_begin_37 : decode cX10_begin 37 = .ok (.invokevirtual 188, 3) := by decide +kernel
theorem dX10_begin_40 : decode cX10_begin 40 = .ok (.return_, 1) := by decide +kernel
theorem dX10_least_0 : decode cX10_least 0 = .ok (.iload_n 0, 1) := by decide +kernel
theorem dX10_least_1 : decode cX10_least 1 = .ok (.iload_n 1, 1) := by decide +kernel
theorem dX10_least_2 : decode cX10_least 2 = .ok (.if_icmp .ge 7, 3) := by decide +kernel
theorem dX10_least_5 : decode cX10_least 5 = .ok (.iload_n 0, 1) := by decide +kernel
theorem dX10_least_6 : decode cX10_least 6 = .ok (.goto 4, 3) := by decide +kernel
theorem dX10_least_9 : decode cX10_least 9 = .ok (.iload_n 1, 1) := by decide +kernel
theorem dX10_least_10 : decode cX10_least 10 = .ok (.ireturn, 1) := by decide +kernel
theorem dX10_resize_0 : decode cX10_resize 0 = .ok (.aload_n 0, 1) := by decide +kernel
theorem dX10_resize_1 : decode cX10_resize 1 = .ok (.getfield 53, 3) := by decide +kernel
theorem dX10_resize_4 : decode cX10_resize 4 = .ok (.iload_n 1, 1) := by decide +kernel
theorem dX10_resize_5 : decode cX10_resize 5 = .ok (.iaload, 1) := by decide +kernel
theorem dX10_resize_6 : decode cX10_resize 6 = .ok (.iload_n 2, 1) := by decide +kernel
theorem dX10_resize_7 : decode cX10_resize 7 = .ok (.if_icmp .ne 14, 3) := by decide +kernel
theorem dX10_resize_10 : decode cX10_resize 10 = .ok (.aload_n 0, 1) := by decide +kernel
theorem dX10_resize_11 : decode cX10_resize 11 = .ok (.getfield 56, 3) := by decide +kernel
theorem dX10_resize_14 : decode cX10_resize 14 = .ok (.iload_n 1, 1) := by decide +kernel
theorem dX10_resize_15 : decode cX10_resize 15 = .ok (.iaload, 1) := by decide +kernel
theorem dX10_resize_16 : decode cX10_resize 16 = .ok (.iload_n 3, 1) := by decide +kernel
theorem dX10_resize_17 : decode cX10_resize 17 = .ok (.if_icmp .ne 4, 3) := by decide +kernel
theorem dX10_resize_20 : decode cX10_resize 20 = .ok (.return_, 1) := by decide +kernel
theorem dX10_resize_21 : decode cX10_resize 21 = .ok (.aload_n 0, 1) := by decide +kernel
theorem dX10_resize_22 : decode cX10_resize 22 = .ok (.getfield 53, 3) := by decide +kernel
theorem dX10_resize_25 : decode cX10_resize 25 = .ok (.iload_n 1, 1) := by decide +kernel
theorem dX10_resize_26 : decode cX10_resize 26 = .ok (.iload_n 2, 1) := by decide +kernel
theorem dX10_resize_27 : decode cX10_resize 27 = .ok (.iastore, 1) := by decide +kernel
theorem dX10_resize_28 : decode cX10_resize 28 = .ok (.aload_n 0, 1) := by decide +kernel
theorem dX10_resize_29 : decode cX10_resize 29 = .ok (.getfield 56, 3) := by decide +kernel
theorem dX10_resize_32 : decode cX10_resize 32 = .ok (.iload_n 1, 1) := by decide +kernel
theorem dX10_resize_33 : decode cX10_resize 33 = .ok (.iload_n 3, 1) := by decide +kernel
theorem dX10_resize_34 : decode cX10_resize 34 = .ok (.iastore, 1) := by decide +kernel
theorem dX10_resize_35 : decode cX10_resize 35 = .ok (.iconst 0, 1) := by decide +kernel
theorem dX10_resize_36 : decode cX10_resize 36 = .ok (.istore 4, 2) := by decide +kernel
theorem dX10_resize_38 : decode cX10_resize 38 = .ok (.iload 4, 2) := by decide +kernel
theorem dX10_resize_40 : decode cX10_resize 40 = .ok (.iconst 2, 1) := by decide +kernel
theorem dX10_resize_41 : decode cX10_resize 41 = .ok (.if_icmp .ge 68, 3) := by decide +kernel
theorem dX10_resize_44 : decode cX10_resize 44 = .ok (.iconst 0, 1) := by decide +kernel
theorem dX10_resize_45 : decode cX10_resize 45 = .ok (.istore 5, 2) := by decide +kernel
theorem dX10_resize_47 : decode cX10_resize 47 = .ok (.iload 5, 2) := by decide +kernel
theorem dX10_resize_49 : decode cX10_resize 49 = .ok (.bipush 16, 2) := by decide +kernel
theorem dX10_resize_51 : decode cX10_resize 51 = .ok (.if_icmp .ge 52, 3) := by decide +kernel
theorem dX10_resize_54 : decode cX10_resize 54 = .ok (.iconst 0, 1) := by decide +kernel
theorem dX10_resize_55 : decode cX10_resize 55 = .ok (.istore 6, 2) := by decide +kernel
theorem dX10_resize_57 : decode cX10_resize 57 = .ok (.iload 6, 2) := by decide +kernel
theorem dX10_resize_59 : decode cX10_resize 59 = .ok (.bipush 40, 2) := by decide +kernel
theorem dX10_resize_61 : decode cX10_resize 61 = .ok (.if_icmp .ge 36, 3) := by decide +kernel
theorem dX10_resize_64 : decode cX10_resize 64 = .ok (.iload 5, 2) := by decide +kernel
theorem dX10_resize_66 : decode cX10_resize 66 = .ok (.iload_n 3, 1) := by decide +kernel
theorem dX10_resize_67 : decode cX10_resize 67 = .ok (.if_icmp .ge 9, 3) := by decide +kernel
theorem dX10_resize_70 : decode cX10_resize 70 = .ok (.iload 6, 2) := by decide +kernel
theorem dX10_resize_72 : decode cX10_resize 72 = .ok (.iload_n 2, 1) := by decide +kernel
theorem dX10_resize_73 : decode cX10_resize 73 = .ok (.if_icmp .lt 18, 3) := by decide +kernel
theorem dX10_resize_76 : decode cX10_resize 76 = .ok (.aload_n 0, 1) := by decide +kernel
theorem dX10_resize_77 : decode cX10_resize 77 = .ok (.iload_n 1, 1) := by decide +kernel
theorem dX10_resize_78 : decode cX10_resize 78 = .ok (.iload 4, 2) := by decide +kernel
theorem dX10_resize_80 : decode cX10_resize 80 = .ok (.iload 5, 2) := by decide +kernel
theorem dX10_resize_82 : decode cX10_resize 82 = .ok (.iload 6, 2) := by decide +kernel
theorem dX10_resize_84 : decode cX10_resize 84 = .ok (.invokestatic 180, 3) := by decide +kernel
theorem dX10_resize_87 : decode cX10_resize 87 = .ok (.iconst 0, 1) := by decide +kernel
theorem dX10_resize_88 : decode cX10_resize 88 = .ok (.invokevirtual 184, 3) := by decide +kernel
theorem dX10_resize_91 : decode cX10_resize 91 = .ok (.iinc 6 1, 3) := by decide +kernel
theorem dX10_resize_94 : decode cX10_resize 94 = .ok (.goto (-37), 3) := by decide +kernel
theorem dX10_resize_97 : decode cX10_resize 97 = .ok (.iinc 5 1, 3) := by decide +kernel
theorem dX10_resize_100 : decode cX10_resize 100 = .ok (.goto (-53), 3) := by decide +kernel
theorem dX10_resize_103 : decode cX10_resize 103 = .ok (.iinc 4 1, 3) := by decide +kernel
theorem dX10_resize_106 : decode cX10_resize 106 = .ok (.goto (-68), 3) := by decide +kernel
theorem dX10_resize_109 : decode cX10_resize 109 = .ok (.aload_n 0, 1) := by decide +kernel
theorem dX10_resize_110 : decode cX10_resize 110 = .ok (.getfield 68, 3) := by decide +kernel
theorem dX10_resize_113 : decode cX10_resize 113 = .ok (.iload_n 1, 1) := by decide +kernel
theorem dX10_resize_114 : decode cX10_resize 114 = .ok (.aload_n 0, 1) := by decide +kernel
theorem dX10_resize_115 : decode cX10_resize 115 = .ok (.getfield 68, 3) := by decide +kernel
theorem dX10_resize_118 : decode cX10_resize 118 = .ok (.iload_n 1, 1) := by decide +kernel
theorem dX10_resize_119 : decode cX10_resize 119 = .ok (.iaload, 1) := by decide +kernel
theorem dX10_resize_120 : decode cX10_resize 120 = .ok (.iload_n 3, 1) := by decide +kernel
theorem dX10_resize_121 : decode cX10_resize 121 = .ok (.iconst 1, 1) := by decide +kernel
theorem dX10_resize_122 : decode cX10_resize 122 = .ok (.isub, 1) := by decide +kernel
theorem dX10_resize_123 : decode cX10_resize 123 = .ok (.invokestatic 192, 3) := by decide +kernel
theorem dX10_resize_126 : decode cX10_resize 126 = .ok (.iastore, 1) := by decide +kernel
theorem dX10_resize_127 : decode cX10_resize 127 = .ok (.aload_n 0, 1) := by decide +kernel
theorem dX10_resize_128 : decode cX10_resize 128 = .ok (.getfield 71, 3) := by decide +kernel
theorem dX10_resize_131 : decode cX10_resize 131 = .ok (.iload_n 1, 1) := by decide +kernel
theorem dX10_resize_132 : decode cX10_resize 132 = .ok (.aload_n 0, 1) := by decide +kernel
theorem dX10_resize_133 : decode cX10_resize 133 = .ok (.getfield 71, 3) := by decide +kernel
theorem dX10_resize_136 : decode cX10_resize 136 = .ok (.iload_n 1, 1) := by decide +kernel
theorem dX10_resize_137 : decode cX10_resize 137 = .ok (.iaload, 1) := by decide +kernel
theorem dX10_resize_138 : decode cX10_resize 138 = .ok (.iload_n 2, 1) := by decide +kernel
theorem dX10_resize_139 : decode cX10_resize 139 = .ok (.iconst 1, 1) := by decide +kernel
theorem dX10_resize_140 : decode cX10_resize 140 = .ok (.isub, 1) := by decide +kernel
theorem dX10_resize_141 : decode cX10_resize 141 = .ok (.invokestatic 192, 3) := by decide +kernel
theorem dX10_resize_144 : decode cX10_resize 144 = .ok (.iastore, 1) := by decide +kernel
theorem dX10_resize_145 : decode cX10_resize 145 = .ok (.aload_n 0, 1) := by decide +kernel
theorem dX10_resize_146 : decode cX10_resize 146 = .ok (.getfield 77, 3) := by decide +kernel
theorem dX10_resize_149 : decode cX10_resize 149 = .ok (.iload_n 1, 1) := by decide +kernel
theorem dX10_resize_150 : decode cX10_resize 150 = .ok (.aload_n 0, 1) := by decide +kernel
theorem dX10_resize_151 : decode cX10_resize 151 = .ok (.getfield 77, 3) := by decide +kernel
theorem dX10_resize_154 : decode cX10_resize 154 = .ok (.iload_n 1, 1) := by decide +kernel
theorem dX10_resize_155 : decode cX10_resize 155 = .ok (.iaload, 1) := by decide +kernel
theorem dX10_resize_156 : decode cX10_resize 156 = .ok (.iload_n 3, 1) := by decide +kernel
theorem dX10_resize_157 : decode cX10_resize 157 = .ok (.iconst 1, 1) := by decide +kernel
theorem dX10_resize_158 : decode cX10_resize 158 = .ok (.isub, 1) := by decide +kernel
theorem dX10_resize_159 : decode cX10_resize 159 = .ok (.invokestatic 192, 3) := by decide +kernel
theorem dX10_resize_162 : decode cX10_resize 162 = .ok (.iastore, 1) := by decide +kernel
theorem dX10_resize_163 : decode cX10_resize 163 = .ok (.aload_n 0, 1) := by decide +kernel
theorem dX10_resize_164 : decode cX10_resize 164 = .ok (.getfield 80, 3) := by decide +kernel
theorem dX10_resize_167 : decode cX10_resize 167 = .ok (.iload_n 1, 1) := by decide +kernel
theorem dX10_resize_168 : decode cX10_resize 168 = .ok (.aload_n 0, 1) := by decide +kernel
theorem dX10_resize_169 : decode cX10_resize 169 = .ok (.getfield 80, 3) := by decide +kernel
theorem dX10_resize_172 : decode cX10_resize 172 = .ok (.iload_n 1, 1) := by decide +kernel
theorem dX10_resize_173 : decode cX10_resize 173 = .ok (.iaload, 1) := by decide +kernel
theorem dX10_resize_174 : decode cX10_resize 174 = .ok (.iload_n 2, 1) := by decide +kernel
theorem dX10_resize_175 : decode cX10_resize 175 = .ok (.iconst 1, 1) := by decide +kernel
theorem dX10_resize_176 : decode cX10_resize 176 = .ok (.isub, 1) := by decide +kernel
theorem dX10_resize_177 : decode cX10_resize 177 = .ok (.invokestatic 192, 3) := by decide +kernel
theorem dX10_resize_180 : decode cX10_resize 180 = .ok (.iastore, 1) := by decide +kernel
theorem dX10_resize_181 : decode cX10_resize 181 = .ok (.aload_n 0, 1) := by decide +kernel
theorem dX10_resize_182 : decode cX10_resize 182 = .ok (.getfield 86, 3) := by decide +kernel
theorem dX10_resize_185 : decode cX10_resize 185 = .ok (.iload_n 1, 1) := by decide +kernel
theorem dX10_resize_186 : decode cX10_resize 186 = .ok (.iconst 0, 1) := by decide +kernel
theorem dX10_resize_187 : decode cX10_resize 187 = .ok (.iastore, 1) := by decide +kernel
theorem dX10_resize_188 : decode cX10_resize 188 = .ok (.aload_n 0, 1) := by decide +kernel
theorem dX10_resize_189 : decode cX10_resize 189 = .ok (.getfield 89, 3) := by decide +kernel
theorem dX10_resize_192 : decode cX10_resize 192 = .ok (.iload_n 1, 1) := by decide +kernel
theorem dX10_resize_193 : decode cX10_resize 193 = .ok (.iload_n 3, 1) := by decide +kernel
theorem dX10_resize_194 : decode cX10_resize 194 = .ok (.iconst 1, 1) := by decide +kernel
theorem dX10_resize_195 : decode cX10_resize 195 = .ok (.isub, 1) := by decide +kernel
theorem dX10_resize_196 : decode cX10_resize 196 = .ok (.iastore, 1) := by decide +kernel
theorem dX10_resize_197 : decode cX10_resize 197 = .ok (.aload_n 0, 1) := by decide +kernel
theorem dX10_resize_198 : decode cX10_resize 198 = .ok (.getfield 92, 3) := by decide +kernel
theorem dX10_resize_201 : decode cX10_resize 201 = .ok (.iload_n 1, 1) := by decide +kernel
theorem dX10_resize_202 : decode cX10_resize 202 = .ok (.iconst 0, 1) := by decide +kernel
theorem dX10_resize_203 : decode cX10_resize 203 = .ok (.bastore, 1) := by decide +kernel
theorem dX10_resize_204 : decode cX10_resize 204 = .ok (.return_, 1) := by decide +kernel
theorem dX10_freeNode_0 : decode cX10_freeNode 0 = .ok (.iconst 0, 1) := by decide +kernel
theorem dX10_freeNode_1 : decode cX10_freeNode 1 = .ok (.istore_n 1, 1) := by decide +kernel
theorem dX10_freeNode_2 : decode cX10_freeNode 2 = .ok (.aload_n 0, 1) := by decide +kernel
theorem dX10_freeNode_3 : decode cX10_freeNode 3 = .ok (.getfield 7, 3) := by decide +kernel
theorem dX10_freeNode_6 : decode cX10_freeNode 6 = .ok (.iload_n 1, 1) := by decide +kernel
theorem dX10_freeNode_7 : decode cX10_freeNode 7 = .ok (.baload, 1) := by decide +kernel
theorem dX10_freeNode_8 : decode cX10_freeNode 8 = .ok (.ifCond .eq 9, 3) := by decide +kernel
theorem dX10_freeNode_11 : decode cX10_freeNode 11 = .ok (.iinc 1 1, 3) := by decide +kernel
theorem dX10_freeNode_14 : decode cX10_freeNode 14 = .ok (.goto (-12), 3) := by decide +kernel
theorem dX10_freeNode_17 : decode cX10_freeNode 17 = .ok (.aload_n 0, 1) := by decide +kernel
theorem dX10_freeNode_18 : decode cX10_freeNode 18 = .ok (.getfield 7, 3) := by decide +kernel
theorem dX10_freeNode_21 : decode cX10_freeNode 21 = .ok (.iload_n 1, 1) := by decide +kernel
theorem dX10_freeNode_22 : decode cX10_freeNode 22 = .ok (.iconst 1, 1) := by decide +kernel
theorem dX10_freeNode_23 : decode cX10_freeNode 23 = .ok (.bastore, 1) := by decide +kernel
theorem dX10_freeNode_24 : decode cX10_freeNode 24 = .ok (.iload_n 1, 1) := by decide +kernel
theorem dX10_freeNode_25 : decode cX10_freeNode 25 = .ok (.ireturn, 1) := by decide +kernel
theorem dX10_lay_0 : decode cX10_lay 0 = .ok (.aload_n 0, 1) := by decide +kernel
theorem dX10_lay_1 : decode cX10_lay 1 = .ok (.getfield 32, 3) := by decide +kernel
theorem dX10_lay_4 : decode cX10_lay 4 = .ok (.iload_n 1, 1) := by decide +kernel
theorem dX10_lay_5 : decode cX10_lay 5 = .ok (.iload_n 2, 1) := by decide +kernel
theorem dX10_lay_6 : decode cX10_lay 6 = .ok (.iastore, 1) := by decide +kernel
theorem dX10_lay_7 : decode cX10_lay 7 = .ok (.aload_n 0, 1) := by decide +kernel
theorem dX10_lay_8 : decode cX10_lay 8 = .ok (.getfield 35, 3) := by decide +kernel
theorem dX10_lay_11 : decode cX10_lay 11 = .ok (.iload_n 1, 1) := by decide +kernel
theorem dX10_lay_12 : decode cX10_lay 12 = .ok (.iload_n 3, 1) := by decide +kernel
theorem dX10_lay_13 : decode cX10_lay 13 = .ok (.iastore, 1) := by decide +kernel
theorem dX10_lay_14 : decode cX10_lay 14 = .ok (.aload_n 0, 1) := by decide +kernel
theorem dX10_lay_15 : decode cX10_lay 15 = .ok (.getfield 44, 3) := by decide +kernel
theorem dX10_lay_18 : decode cX10_lay 18 = .ok (.iconst 0, 1) := by decide +kernel
theorem dX10_lay_19 : decode cX10_lay 19 = .ok (.iload_n 1, 1) := by decide +kernel
theorem dX10_lay_20 : decode cX10_lay 20 = .ok (.iastore, 1) := by decide +kernel
theorem dX10_lay_21 : decode cX10_lay 21 = .ok (.iconst 1, 1) := by decide +kernel
theorem dX10_lay_22 : decode cX10_lay 22 = .ok (.istore 6, 2) := by decide +kernel
theorem dX10_lay_24 : decode cX10_lay 24 = .ok (.aload_n 0, 1) := by decide +kernel
theorem dX10_lay_25 : decode cX10_lay 25 = .ok (.getfield 156, 3) := by decide +kernel
theorem dX10_lay_28 : decode cX10_lay 28 = .ok (.iload_n 1, 1) := by decide +kernel
theorem dX10_lay_29 : decode cX10_lay 29 = .ok (.iload 4, 2) := by decide +kernel
theorem dX10_lay_31 : decode cX10_lay 31 = .ok (.iastore, 1) := by decide +kernel
theorem dX10_lay_32 : decode cX10_lay 32 = .ok (.aload_n 0, 1) := by decide +kernel
theorem dX10_lay_33 : decode cX10_lay 33 = .ok (.getfield 159, 3) := by decide +kernel
theorem dX10_lay_36 : decode cX10_lay 36 = .ok (.iload_n 1, 1) := by decide +kernel
theorem dX10_lay_37 : decode cX10_lay 37 = .ok (.iload 5, 2) := by decide +kernel
theorem dX10_lay_39 : decode cX10_lay 39 = .ok (.iastore, 1) := by decide +kernel
theorem dX10_lay_40 : decode cX10_lay 40 = .ok (.iload 6, 2) := by decide +kernel
theorem dX10_lay_42 : decode cX10_lay 42 = .ok (.ifCond .le 505, 3) := by decide +kernel
theorem dX10_lay_45 : decode cX10_lay 45 = .ok (.iinc 6 (-1), 3) := by decide +kernel
theorem dX10_lay_48 : decode cX10_lay 48 = .ok (.aload_n 0, 1) := by decide +kernel
theorem dX10_lay_49 : decode cX10_lay 49 = .ok (.getfield 44, 3) := by decide +kernel
theorem dX10_lay_52 : decode cX10_lay 52 = .ok (.iload 6, 2) := by decide +kernel
theorem dX10_lay_54 : decode cX10_lay 54 = .ok (.iaload, 1) := by decide +kernel
theorem dX10_lay_55 : decode cX10_lay 55 = .ok (.istore 7, 2) := by decide +kernel
theorem dX10_lay_57 : decode cX10_lay 57 = .ok (.aload_n 0, 1) := by decide +kernel
theorem dX10_lay_58 : decode cX10_lay 58 = .ok (.getfield 13, 3) := by decide +kernel
theorem dX10_lay_61 : decode cX10_lay 61 = .ok (.iload 7, 2) := by decide +kernel
theorem dX10_lay_63 : decode cX10_lay 63 = .ok (.iaload, 1) := by decide +kernel
theorem dX10_lay_64 : decode cX10_lay 64 = .ok (.iconst (-1), 1) := by decide +kernel
theorem dX10_lay_65 : decode cX10_lay 65 = .ok (.if_icmp .eq 59, 3) := by decide +kernel
theorem dX10_lay_68 : decode cX10_lay 68 = .ok (.aload_n 0, 1) := by decide +kernel
theorem dX10_lay_69 : decode cX10_lay 69 = .ok (.getfield 38, 3) := by decide +kernel
theorem dX10_lay_72 : decode cX10_lay 72 = .ok (.iload 7, 2) := by decide +kernel
theorem dX10_lay_74 : decode cX10_lay 74 = .ok (.aload_n 0, 1) := by decide +kernel
theorem dX10_lay_75 : decode cX10_lay 75 = .ok (.getfield 156, 3) := by decide +kernel
theorem dX10_lay_78 : decode cX10_lay 78 = .ok (.iload 7, 2) := by decide +kernel
theorem dX10_lay_80 : decode cX10_lay 80 = .ok (.iaload, 1) := by decide +kernel
theorem dX10_lay_81 : decode cX10_lay 81 = .ok (.iastore, 1) := by decide +kernel
theorem dX10_lay_82 : decode cX10_lay 82 = .ok (.aload_n 0, 1) := by decide +kernel
theorem dX10_lay_83 : decode cX10_lay 83 = .ok (.getfield 41, 3) := by decide +kernel
theorem dX10_lay_86 : decode cX10_lay 86 = .ok (.iload 7, 2) := by decide +kernel
theorem dX10_lay_88 : decode cX10_lay 88 = .ok (.aload_n 0, 1) := by decide +kernel
theorem dX10_lay_89 : decode cX10_lay 89 = .ok (.getfield 159, 3) := by decide +kernel
theorem dX10_lay_92 : decode cX10_lay 92 = .ok (.iload 7, 2) := by decide +kernel
theorem dX10_lay_94 : decode cX10_lay 94 = .ok (.iaload, 1) := by decide +kernel
theorem dX10_lay_95 : decode cX10_lay 95 = .ok (.iastore, 1) := by decide +kernel
theorem dX10_lay_96 : decode cX10_lay 96 = .ok (.aload_n 0, 1) := by decide +kernel
theorem dX10_lay_97 : decode cX10_lay 97 = .ok (.aload_n 0, 1) := by decide +kernel
theorem dX10_lay_98 : decode cX10_lay 98 = .ok (.getfield 13, 3) := by decide +kernel
theorem dX10_lay_101 : decode cX10_lay 101 = .ok (.iload 7, 2) := by decide +kernel
theorem dX10_lay_103 : decode cX10_lay 103 = .ok (.iaload, 1) := by decide +kernel
theorem dX10_lay_104 : decode cX10_lay 104 = .ok (.aload_n 0, 1) := by decide +kernel
theorem dX10_lay_105 : decode cX10_lay 105 = .ok (.getfield 38, 3) := by decide +kernel
theorem dX10_lay_108 : decode cX10_lay 108 = .ok (.iload 7, 2) := by decide +kernel
theorem dX10_lay_110 : decode cX10_lay 110 = .ok (.iaload, 1) := by decide +kernel
theorem dX10_lay_111 : decode cX10_lay 111 = .ok (.aload_n 0, 1) := by decide +kernel
theorem dX10_lay_112 : decode cX10_lay 112 = .ok (.getfield 41, 3) := by decide +kernel
theorem dX10_lay_115 : decode cX10_lay 115 = .ok (.iload 7, 2) := by decide +kernel
theorem dX10_lay_117 : decode cX10_lay 117 = .ok (.iaload, 1) := by decide +kernel
theorem dX10_lay_118 : decode cX10_lay 118 = .ok (.invokevirtual 196, 3) := by decide +kernel
theorem dX10_lay_121 : decode cX10_lay 121 = .ok (.goto (-81), 3) := by decide +kernel
theorem dX10_lay_124 : decode cX10_lay 124 = .ok (.aload_n 0, 1) := by decide +kernel
theorem dX10_lay_125 : decode cX10_lay 125 = .ok (.getfield 26, 3) := by decide +kernel
theorem dX10_lay_128 : decode cX10_lay 128 = .ok (.iload 7, 2) := by decide +kernel
theorem dX10_lay_130 : decode cX10_lay 130 = .ok (.baload, 1) := by decide +kernel
theorem dX10_lay_131 : decode cX10_lay 131 = .ok (.ifCond .eq 13, 3) := by decide +kernel
theorem dX10_lay_134 : decode cX10_lay 134 = .ok (.aload_n 0, 1) := by decide +kernel
theorem dX10_lay_135 : decode cX10_lay 135 = .ok (.getfield 41, 3) := by decide +kernel
theorem dX10_lay_138 : decode cX10_lay 138 = .ok (.iload 7, 2) := by decide +kernel
theorem dX10_lay_140 : decode cX10_lay 140 = .ok (.iaload, 1) := by decide +kernel
theorem dX10_lay_141 : decode cX10_lay 141 = .ok (.goto 10, 3) := by decide +kernel
theorem dX10_lay_144 : decode cX10_lay 144 = .ok (.aload_n 0, 1) := by decide +kernel
theorem dX10_lay_145 : decode cX10_lay 145 = .ok (.getfield 38, 3) := by decide +kernel
theorem dX10_lay_148 : decode cX10_lay 148 = .ok (.iload 7, 2) := by decide +kernel
theorem dX10_lay_150 : decode cX10_lay 150 = .ok (.iaload, 1) := by decide +kernel
theorem dX10_lay_151 : decode cX10_lay 151 = .ok (.istore 8, 2) := by decide +kernel
theorem dX10_lay_153 : decode cX10_lay 153 = .ok (.aload_n 0, 1) := by decide +kernel
theorem dX10_lay_154 : decode cX10_lay 154 = .ok (.getfield 26, 3) := by decide +kernel
theorem dX10_lay_157 : decode cX10_lay 157 = .ok (.iload 7, 2) := by decide +kernel
theorem dX10_lay_159 : decode cX10_lay 159 = .ok (.baload, 1) := by decide +kernel
theorem dX10_lay_160 : decode cX10_lay 160 = .ok (.ifCond .eq 13, 3) := by decide +kernel
theorem dX10_lay_163 : decode cX10_lay 163 = .ok (.aload_n 0, 1) := by decide +kernel
theorem dX10_lay_164 : decode cX10_lay 164 = .ok (.getfield 159, 3) := by decide +kernel
theorem dX10_lay_167 : decode cX10_lay 167 = .ok (.iload 7, 2) := by decide +kernel
theorem dX10_lay_169 : decode cX10_lay 169 = .ok (.iaload, 1) := by decide +kernel
theorem dX10_lay_170 : decode cX10_lay 170 = .ok (.goto 10, 3) := by decide +kernel
theorem dX10_lay_173 : decode cX10_lay 173 = .ok (.aload_n 0, 1) := by decide +kernel
theorem dX10_lay_174 : decode cX10_lay 174 = .ok (.getfield 156, 3) := by decide +kernel
theorem dX10_lay_177 : decode cX10_lay 177 = .ok (.iload 7, 2) := by decide +kernel
theorem dX10_lay_179 : decode cX10_lay 179 = .ok (.iaload, 1) := by decide +kernel
theorem dX10_lay_180 : decode cX10_lay 180 = .ok (.istore 9, 2) := by decide +kernel
theorem dX10_lay_182 : decode cX10_lay 182 = .ok (.iload 9, 2) := by decide +kernel
theorem dX10_lay_184 : decode cX10_lay 184 = .ok (.iconst 1, 1) := by decide +kernel
theorem dX10_lay_185 : decode cX10_lay 185 = .ok (.isub, 1) := by decide +kernel
theorem dX10_lay_186 : decode cX10_lay 186 = .ok (.aload_n 0, 1) := by decide +kernel
theorem dX10_lay_187 : decode cX10_lay 187 = .ok (.getfield 29, 3) := by decide +kernel
theorem dX10_lay_190 : decode cX10_lay 190 = .ok (.iload 7, 2) := by decide +kernel
theorem dX10_lay_192 : decode cX10_lay 192 = .ok (.iaload, 1) := by decide +kernel
theorem dX10_lay_193 : decode cX10_lay 193 = .ok (.imul, 1) := by decide +kernel
theorem dX10_lay_194 : decode cX10_lay 194 = .ok (.iload 8, 2) := by decide +kernel
theorem dX10_lay_196 : decode cX10_lay 196 = .ok (.iconst 1, 1) := by decide +kernel
theorem dX10_lay_197 : decode cX10_lay 197 = .ok (.isub, 1) := by decide +kernel
theorem dX10_lay_198 : decode cX10_lay 198 = .ok (.idiv, 1) := by decide +kernel
theorem dX10_lay_199 : decode cX10_lay 199 = .ok (.istore 10, 2) := by decide +kernel
theorem dX10_lay_201 : decode cX10_lay 201 = .ok (.iload 10, 2) := by decide +kernel
theorem dX10_lay_203 : decode cX10_lay 203 = .ok (.iconst 1, 1) := by decide +kernel
theorem dX10_lay_204 : decode cX10_lay 204 = .ok (.if_icmp .ge 7, 3) := by decide +kernel
theorem dX10_lay_211 : decode cX10_lay 211 = .ok (.iload 10, 2) := by decide +kernel
theorem dX10_lay_213 : decode cX10_lay 213 = .ok (.iload 9, 2) := by decide +kernel
theorem dX10_lay_215 : decode cX10_lay 215 = .ok (.iconst 2, 1) := by decide +kernel
theorem dX10_lay_216 : decode cX10_lay 216 = .ok (.isub, 1) := by decide +kernel
theorem dX10_lay_217 : decode cX10_lay 217 = .ok (.if_icmp .le 10, 3) := by decide +kernel
theorem dX10_lay_227 : decode cX10_lay 227 = .ok (.iload 10, 2) := by decide +kernel
theorem dX10_lay_229 : decode cX10_lay 229 = .ok (.istore 10, 2) := by decide +kernel
theorem dX10_lay_231 : decode cX10_lay 231 = .ok (.aload_n 0, 1) := by decide +kernel
theorem dX10_lay_232 : decode cX10_lay 232 = .ok (.getfield 29, 3) := by decide +kernel
theorem dX10_lay_235 : decode cX10_lay 235 = .ok (.iload 7, 2) := by decide +kernel
theorem dX10_lay_237 : decode cX10_lay 237 = .ok (.iload 10, 2) := by decide +kernel
theorem dX10_lay_239 : decode cX10_lay 239 = .ok (.iastore, 1) := by decide +kernel
theorem dX10_lay_240 : decode cX10_lay 240 = .ok (.aload_n 0, 1) := by decide +kernel
theorem dX10_lay_241 : decode cX10_lay 241 = .ok (.getfield 38, 3) := by decide +kernel
theorem dX10_lay_244 : decode cX10_lay 244 = .ok (.iload 7, 2) := by decide +kernel
theorem dX10_lay_246 : decode cX10_lay 246 = .ok (.aload_n 0, 1) := by decide +kernel
theorem dX10_lay_247 : decode cX10_lay 247 = .ok (.getfield 156, 3) := by decide +kernel
theorem dX10_lay_250 : decode cX10_lay 250 = .ok (.iload 7, 2) := by decide +kernel
theorem dX10_lay_252 : decode cX10_lay 252 = .ok (.iaload, 1) := by decide +kernel
theorem dX10_lay_253 : decode cX10_lay 253 = .ok (.iastore, 1) := by decide +kernel
theorem dX10_lay_254 : decode cX10_lay 254 = .ok (.aload_n 0, 1) := by decide +kernel
theorem dX10_lay_255 : decode cX10_lay 255 = .ok (.getfield 41, 3) := by decide +kernel
theorem dX10_lay_258 : decode cX10_lay 258 = .ok (.iload 7, 2) := by decide +kernel
theorem dX10_lay_260 : decode cX10_lay 260 = .ok (.aload_n 0, 1) := by decide +kernel
theorem dX10_lay_261 : decode cX10_lay 261 = .ok (.getfield 159, 3) := by decide +kernel
theorem dX10_lay_264 : decode cX10_lay 264 = .ok (.iload 7, 2) := by decide +kernel
theorem dX10_lay_266 : decode cX10_lay 266 = .ok (.iaload, 1) := by decide +kernel
theorem dX10_lay_267 : decode cX10_lay 267 = .ok (.iastore, 1) := by decide +kernel
theorem dX10_lay_268 : decode cX10_lay 268 = .ok (.aload_n 0, 1) := by decide +kernel
theorem dX10_lay_269 : decode cX10_lay 269 = .ok (.getfield 17, 3) := by decide +kernel
theorem dX10_lay_272 : decode cX10_lay 272 = .ok (.iload 7, 2) := by decide +kernel
theorem dX10_lay_274 : decode cX10_lay 274 = .ok (.iaload, 1) := by decide +kernel
theorem dX10_lay_275 : decode cX10_lay 275 = .ok (.istore 11, 2) := by decide +kernel
theorem dX10_lay_277 : decode cX10_lay 277 = .ok (.aload_n 0, 1) := by decide +kernel
theorem dX10_lay_278 : decode cX10_lay 278 = .ok (.getfield 20, 3) := by decide +kernel
theorem dX10_lay_281 : decode cX10_lay 281 = .ok (.iload 7, 2) := by decide +kernel
theorem dX10_lay_283 : decode cX10_lay 283 = .ok (.iaload, 1) := by decide +kernel
theorem dX10_lay_284 : decode cX10_lay 284 = .ok (.istore 12, 2) := by decide +kernel
theorem dX10_lay_286 : decode cX10_lay 286 = .ok (.aload_n 0, 1) := by decide +kernel
theorem dX10_lay_287 : decode cX10_lay 287 = .ok (.getfield 32, 3) := by decide +kernel
theorem dX10_lay_290 : decode cX10_lay 290 = .ok (.iload 11, 2) := by decide +kernel
theorem dX10_lay_292 : decode cX10_lay 292 = .ok (.aload_n 0, 1) := by decide +kernel
theorem dX10_lay_293 : decode cX10_lay 293 = .ok (.getfield 32, 3) := by decide +kernel
theorem dX10_lay_296 : decode cX10_lay 296 = .ok (.iload 7, 2) := by decide +kernel
theorem dX10_lay_298 : decode cX10_lay 298 = .ok (.iaload, 1) := by decide +kernel
theorem dX10_lay_299 : decode cX10_lay 299 = .ok (.iastore, 1) := by decide +kernel
theorem dX10_lay_300 : decode cX10_lay 300 = .ok (.aload_n 0, 1) := by decide +kernel
theorem dX10_lay_301 : decode cX10_lay 301 = .ok (.getfield 35, 3) := by decide +kernel
theorem dX10_lay_304 : decode cX10_lay 304 = .ok (.iload 11, 2) := by decide +kernel
theorem dX10_lay_306 : decode cX10_lay 306 = .ok (.aload_n 0, 1) := by decide +kernel
theorem dX10_lay_307 : decode cX10_lay 307 = .ok (.getfield 35, 3) := by decide +kernel
theorem dX10_lay_310 : decode cX10_lay 310 = .ok (.iload 7, 2) := by decide +kernel
theorem dX10_lay_312 : decode cX10_lay 312 = .ok (.iaload, 1) := by decide +kernel
theorem dX10_lay_313 : decode cX10_lay 313 = .ok (.iastore, 1) := by decide +kernel
theorem dX10_lay_314 : decode cX10_lay 314 = .ok (.aload_n 0, 1) := by decide +kernel
theorem dX10_lay_315 : decode cX10_lay 315 = .ok (.getfield 156, 3) := by decide +kernel
theorem dX10_lay_318 : decode cX10_lay 318 = .ok (.iload 11, 2) := by decide +kernel
theorem dX10_lay_320 : decode cX10_lay 320 = .ok (.aload_n 0, 1) := by decide +kernel
theorem dX10_lay_321 : decode cX10_lay 321 = .ok (.getfield 26, 3) := by decide +kernel
theorem dX10_lay_324 : decode cX10_lay 324 = .ok (.iload 7, 2) := by decide +kernel
theorem dX10_lay_326 : decode cX10_lay 326 = .ok (.baload, 1) := by decide +kernel
theorem dX10_lay_327 : decode cX10_lay 327 = .ok (.ifCond .eq 13, 3) := by decide +kernel
theorem dX10_lay_330 : decode cX10_lay 330 = .ok (.aload_n 0, 1) := by decide +kernel
theorem dX10_lay_331 : decode cX10_lay 331 = .ok (.getfield 38, 3) := by decide +kernel
theorem dX10_lay_334 : decode cX10_lay 334 = .ok (.iload 7, 2) := by decide +kernel
theorem dX10_lay_336 : decode cX10_lay 336 = .ok (.iaload, 1) := by decide +kernel
theorem dX10_lay_337 : decode cX10_lay 337 = .ok (.goto 5, 3) := by decide +kernel
theorem dX10_lay_340 : decode cX10_lay 340 = .ok (.iload 10, 2) := by decide +kernel
theorem dX10_lay_342 : decode cX10_lay 342 = .ok (.iastore, 1) := by decide +kernel
theorem dX10_lay_343 : decode cX10_lay 343 = .ok (.aload_n 0, 1) := by decide +kernel
theorem dX10_lay_344 : decode cX10_lay 344 = .ok (.getfield 159, 3) := by decide +kernel
theorem dX10_lay_347 : decode cX10_lay 347 = .ok (.iload 11, 2) := by decide +kernel
theorem dX10_lay_349 : decode cX10_lay 349 = .ok (.aload_n 0, 1) := by decide +kernel
theorem dX10_lay_350 : decode cX10_lay 350 = .ok (.getfield 26, 3) := by decide +kernel
theorem dX10_lay_353 : decode cX10_lay 353 = .ok (.iload 7, 2) := by decide +kernel
theorem dX10_lay_355 : decode cX10_lay 355 = .ok (.baload, 1) := by decide +kernel
theorem dX10_lay_356 : decode cX10_lay 356 = .ok (.ifCond .eq 8, 3) := by decide +kernel
theorem dX10_lay_359 : decode cX10_lay 359 = .ok (.iload 10, 2) := by decide +kernel
theorem dX10_lay_361 : decode cX10_lay 361 = .ok (.goto 10, 3) := by decide +kernel
theorem dX10_lay_364 : decode cX10_lay 364 = .ok (.aload_n 0, 1) := by decide +kernel
theorem dX10_lay_365 : decode cX10_lay 365 = .ok (.getfield 41, 3) := by decide +kernel
theorem dX10_lay_368 : decode cX10_lay 368 = .ok (.iload 7, 2) := by decide +kernel
theorem dX10_lay_370 : decode cX10_lay 370 = .ok (.iaload, 1) := by decide +kernel
theorem dX10_lay_371 : decode cX10_lay 371 = .ok (.iastore, 1) := by decide +kernel
theorem dX10_lay_372 : decode cX10_lay 372 = .ok (.aload_n 0, 1) := by decide +kernel
theorem dX10_lay_373 : decode cX10_lay 373 = .ok (.getfield 32, 3) := by decide +kernel
theorem dX10_lay_376 : decode cX10_lay 376 = .ok (.iload 12, 2) := by decide +kernel
theorem dX10_lay_378 : decode cX10_lay 378 = .ok (.aload_n 0, 1) := by decide +kernel
theorem dX10_lay_379 : decode cX10_lay 379 = .ok (.getfield 26, 3) := by decide +kernel
theorem dX10_lay_382 : decode cX10_lay 382 = .ok (.iload 7, 2) := by decide +kernel
theorem dX10_lay_384 : decode cX10_lay 384 = .ok (.baload, 1) := by decide +kernel
theorem dX10_lay_385 : decode cX10_lay 385 = .ok (.ifCond .eq 13, 3) := by decide +kernel
theorem dX10_lay_388 : decode cX10_lay 388 = .ok (.aload_n 0, 1) := by decide +kernel
theorem dX10_lay_389 : decode cX10_lay 389 = .ok (.getfield 32, 3) := by decide +kernel
theorem dX10_lay_392 : decode cX10_lay 392 = .ok (.iload 7, 2) := by decide +kernel
theorem dX10_lay_394 : decode cX10_lay 394 = .ok (.iaload, 1) := by decide +kernel
theorem dX10_lay_395 : decode cX10_lay 395 = .ok (.goto 15, 3) := by decide +kernel
theorem dX10_lay_398 : decode cX10_lay 398 = .ok (.aload_n 0, 1) := by decide +kernel
theorem dX10_lay_399 : decode cX10_lay 399 = .ok (.getfield 32, 3) := by decide +kernel
theorem dX10_lay_402 : decode cX10_lay 402 = .ok (.iload 7, 2) := by decide +kernel
theorem dX10_lay_404 : decode cX10_lay 404 = .ok (.iaload, 1) := by decide +kernel
theorem dX10_lay_405 : decode cX10_lay 405 = .ok (.iload 10, 2) := by decide +kernel
theorem dX10_lay_407 : decode cX10_lay 407 = .ok (.iadd, 1) := by decide +kernel
theorem dX10_lay_408 : decode cX10_lay 408 = .ok (.iconst 1, 1) := by decide +kernel
theorem dX10_lay_409 : decode cX10_lay 409 = .ok (.iadd, 1) := by decide +kernel
theorem dX10_lay_410 : decode cX10_lay 410 = .ok (.iastore, 1) := by decide +kernel
theorem dX10_lay_411 : decode cX10_lay 411 = .ok (.aload_n 0, 1) := by decide +kernel
theorem dX10_lay_412 : decode cX10_lay 412 = .ok (.getfield 35, 3) := by decide +kernel
theorem dX10_lay_415 : decode cX10_lay 415 = .ok (.iload 12, 2) := by decide +kernel
theorem dX10_lay_417 : decode cX10_lay 417 = .ok (.aload_n 0, 1) := by decide +kernel
theorem dX10_lay_418 : decode cX10_lay 418 = .ok (.getfield 26, 3) := by decide +kernel
theorem dX10_lay_421 : decode cX10_lay 421 = .ok (.iload 7, 2) := by decide +kernel
theorem dX10_lay_423 : decode cX10_lay 423 = .ok (.baload, 1) := by decide +kernel
theorem dX10_lay_424 : decode cX10_lay 424 = .ok (.ifCond .eq 18, 3) := by decide +kernel
theorem dX10_lay_427 : decode cX10_lay 427 = .ok (.aload_n 0, 1) := by decide +kernel
theorem dX10_lay_428 : decode cX10_lay 428 = .ok (.getfield 35, 3) := by decide +kernel
theorem dX10_lay_431 : decode cX10_lay 431 = .ok (.iload 7, 2) := by decide +kernel
theorem dX10_lay_433 : decode cX10_lay 433 = .ok (.iaload, 1) := by decide +kernel
theorem dX10_lay_434 : decode cX10_lay 434 = .ok (.iload 10, 2) := by decide +kernel
theorem dX10_lay_436 : decode cX10_lay 436 = .ok (.iadd, 1) := by decide +kernel
theorem dX10_lay_437 : decode cX10_lay 437 = .ok (.iconst 1, 1) := by decide +kernel
theorem dX10_lay_438 : decode cX10_lay 438 = .ok (.iadd, 1) := by decide +kernel
theorem dX10_lay_439 : decode cX10_lay 439 = .ok (.goto 10, 3) := by decide +kernel
theorem dX10_lay_442 : decode cX10_lay 442 = .ok (.aload_n 0, 1) := by decide +kernel
theorem dX10_lay_443 : decode cX10_lay 443 = .ok (.getfield 35, 3) := by decide +kernel
theorem dX10_lay_446 : decode cX10_lay 446 = .ok (.iload 7, 2) := by decide +kernel
theorem dX10_lay_448 : decode cX10_lay 448 = .ok (.iaload, 1) := by decide +kernel
theorem dX10_lay_449 : decode cX10_lay 449 = .ok (.iastore, 1) := by decide +kernel
theorem dX10_lay_450 : decode cX10_lay 450 = .ok (.aload_n 0, 1) := by decide +kernel
theorem dX10_lay_451 : decode cX10_lay 451 = .ok (.getfield 156, 3) := by decide +kernel
theorem dX10_lay_454 : decode cX10_lay 454 = .ok (.iload 12, 2) := by decide +kernel
theorem dX10_lay_456 : decode cX10_lay 456 = .ok (.aload_n 0, 1) := by decide +kernel
theorem dX10_lay_457 : decode cX10_lay 457 = .ok (.getfield 26, 3) := by decide +kernel
theorem dX10_lay_460 : decode cX10_lay 460 = .ok (.iload 7, 2) := by decide +kernel
theorem dX10_lay_462 : decode cX10_lay 462 = .ok (.baload, 1) := by decide +kernel
theorem dX10_lay_463 : decode cX10_lay 463 = .ok (.ifCond .eq 13, 3) := by decide +kernel
theorem dX10_lay_466 : decode cX10_lay 466 = .ok (.aload_n 0, 1) := by decide +kernel
theorem dX10_lay_467 : decode cX10_lay 467 = .ok (.getfield 38, 3) := by decide +kernel
theorem dX10_lay_470 : decode cX10_lay 470 = .ok (.iload 7, 2) := by decide +kernel
theorem dX10_lay_472 : decode cX10_lay 472 = .ok (.iaload, 1) := by decide +kernel
theorem dX10_lay_473 : decode cX10_lay 473 = .ok (.goto 10, 3) := by decide +kernel
theorem dX10_lay_476 : decode cX10_lay 476 = .ok (.iload 9, 2) := by decide +kernel
theorem dX10_lay_478 : decode cX10_lay 478 = .ok (.iconst 1, 1) := by decide +kernel
theorem dX10_lay_479 : decode cX10_lay 479 = .ok (.isub, 1) := by decide +kernel
theorem dX10_lay_480 : decode cX10_lay 480 = .ok (.iload 10, 2) := by decide +kernel
theorem dX10_lay_482 : decode cX10_lay 482 = .ok (.isub, 1) := by decide +kernel
theorem dX10_lay_483 : decode cX10_lay 483 = .ok (.iastore, 1) := by decide +kernel
theorem dX10_lay_484 : decode cX10_lay 484 = .ok (.aload_n 0, 1) := by decide +kernel
theorem dX10_lay_485 : decode cX10_lay 485 = .ok (.getfield 159, 3) := by decide +kernel
theorem dX10_lay_488 : decode cX10_lay 488 = .ok (.iload 12, 2) := by decide +kernel
theorem dX10_lay_490 : decode cX10_lay 490 = .ok (.aload_n 0, 1) := by decide +kernel
theorem dX10_lay_491 : decode cX10_lay 491 = .ok (.getfield 26, 3) := by decide +kernel
theorem dX10_lay_494 : decode cX10_lay 494 = .ok (.iload 7, 2) := by decide +kernel
theorem dX10_lay_496 : decode cX10_lay 496 = .ok (.baload, 1) := by decide +kernel
theorem dX10_lay_497 : decode cX10_lay 497 = .ok (.ifCond .eq 13, 3) := by decide +kernel
theorem dX10_lay_500 : decode cX10_lay 500 = .ok (.iload 9, 2) := by decide +kernel
theorem dX10_lay_502 : decode cX10_lay 502 = .ok (.iconst 1, 1) := by decide +kernel
theorem dX10_lay_503 : decode cX10_lay 503 = .ok (.isub, 1) := by decide +kernel
theorem dX10_lay_504 : decode cX10_lay 504 = .ok (.iload 10, 2) := by decide +kernel
theorem dX10_lay_506 : decode cX10_lay 506 = .ok (.isub, 1) := by decide +kernel
theorem dX10_lay_507 : decode cX10_lay 507 = .ok (.goto 10, 3) := by decide +kernel
theorem dX10_lay_510 : decode cX10_lay 510 = .ok (.aload_n 0, 1) := by decide +kernel
theorem dX10_lay_511 : decode cX10_lay 511 = .ok (.getfield 41, 3) := by decide +kernel
theorem dX10_lay_514 : decode cX10_lay 514 = .ok (.iload 7, 2) := by decide +kernel
theorem dX10_lay_516 : decode cX10_lay 516 = .ok (.iaload, 1) := by decide +kernel
theorem dX10_lay_517 : decode cX10_lay 517 = .ok (.iastore, 1) := by decide +kernel
theorem dX10_lay_518 : decode cX10_lay 518 = .ok (.aload_n 0, 1) := by decide +kernel
theorem dX10_lay_519 : decode cX10_lay 519 = .ok (.getfield 44, 3) := by decide +kernel
theorem dX10_lay_522 : decode cX10_lay 522 = .ok (.iload 6, 2) := by decide +kernel
theorem dX10_lay_524 : decode cX10_lay 524 = .ok (.iload 11, 2) := by decide +kernel
theorem dX10_lay_526 : decode cX10_lay 526 = .ok (.iastore, 1) := by decide +kernel
theorem dX10_lay_527 : decode cX10_lay 527 = .ok (.aload_n 0, 1) := by decide +kernel
theorem dX10_lay_528 : decode cX10_lay 528 = .ok (.getfield 44, 3) := by decide +kernel
theorem dX10_lay_531 : decode cX10_lay 531 = .ok (.iload 6, 2) := by decide +kernel
theorem dX10_lay_533 : decode cX10_lay 533 = .ok (.iconst 1, 1) := by decide +kernel
theorem dX10_lay_534 : decode cX10_lay 534 = .ok (.iadd, 1) := by decide +kernel
theorem dX10_lay_535 : decode cX10_lay 535 = .ok (.iload 12, 2) := by decide +kernel
theorem dX10_lay_537 : decode cX10_lay 537 = .ok (.iastore, 1) := by decide +kernel
theorem dX10_lay_538 : decode cX10_lay 538 = .ok (.iload 6, 2) := by decide +kernel
theorem dX10_lay_540 : decode cX10_lay 540 = .ok (.iconst 2, 1) := by decide +kernel
theorem dX10_lay_541 : decode cX10_lay 541 = .ok (.iadd, 1) := by decide +kernel
theorem dX10_lay_542 : decode cX10_lay 542 = .ok (.istore 6, 2) := by decide +kernel
theorem dX10_lay_544 : decode cX10_lay 544 = .ok (.goto (-504), 3) := by decide +kernel
theorem dX10_lay_547 : decode cX10_lay 547 = .ok (.return_, 1) := by decide +kernel
theorem dX10_maySplit_0 : decode cX10_maySplit 0 = .ok (.iconst 0, 1) := by decide +kernel
theorem dX10_maySplit_1 : decode cX10_maySplit 1 = .ok (.istore_n 3, 1) := by decide +kernel
theorem dX10_maySplit_2 : decode cX10_maySplit 2 = .ok (.iload_n 3, 1) := by decide +kernel
theorem dX10_maySplit_3 : decode cX10_maySplit 3 = .ok (.bipush 8, 2) := by decide +kernel
theorem dX10_maySplit_5 : decode cX10_maySplit 5 = .ok (.if_icmp .ge 18, 3) := by decide +kernel
theorem dX10_maySplit_8 : decode cX10_maySplit 8 = .ok (.aload_n 0, 1) := by decide +kernel
theorem dX10_maySplit_9 : decode cX10_maySplit 9 = .ok (.getfield 47, 3) := by decide +kernel
theorem dX10_maySplit_12 : decode cX10_maySplit 12 = .ok (.iload_n 3, 1) := by decide +kernel
theorem dX10_maySplit_13 : decode cX10_maySplit 13 = .ok (.baload, 1) := by decide +kernel
theorem dX10_maySplit_14 : decode cX10_maySplit 14 = .ok (.ifCond .eq 9, 3) := by decide +kernel
theorem dX10_maySplit_17 : decode cX10_maySplit 17 = .ok (.iinc 3 1, 3) := by decide +kernel
theorem dX10_maySplit_20 : decode cX10_maySplit 20 = .ok (.goto (-18), 3) := by decide +kernel
theorem dX10_maySplit_23 : decode cX10_maySplit 23 = .ok (.iload_n 3, 1) := by decide +kernel
theorem dX10_maySplit_24 : decode cX10_maySplit 24 = .ok (.bipush 8, 2) := by decide +kernel
theorem dX10_maySplit_26 : decode cX10_maySplit 26 = .ok (.if_icmp .ge 30, 3) := by decide +kernel
theorem dX10_maySplit_29 : decode cX10_maySplit 29 = .ok (.iload_n 2, 1) := by decide +kernel
theorem dX10_maySplit_30 : decode cX10_maySplit 30 = .ok (.ifCond .eq 12, 3) := by decide +kernel
theorem dX10_maySplit_33 : decode cX10_maySplit 33 = .ok (.aload_n 0, 1) := by decide +kernel
theorem dX10_maySplit_34 : decode cX10_maySplit 34 = .ok (.getfield 56, 3) := by decide +kernel
theorem dX10_maySplit_37 : decode cX10_maySplit 37 = .ok (.iload_n 1, 1) := by decide +kernel
theorem dX10_maySplit_38 : decode cX10_maySplit 38 = .ok (.iaload, 1) := by decide +kernel
theorem dX10_maySplit_39 : decode cX10_maySplit 39 = .ok (.goto 9, 3) := by decide +kernel
theorem dX10_maySplit_42 : decode cX10_maySplit 42 = .ok (.aload_n 0, 1) := by decide +kernel
theorem dX10_maySplit_43 : decode cX10_maySplit 43 = .ok (.getfield 53, 3) := by decide +kernel
theorem dX10_maySplit_46 : decode cX10_maySplit 46 = .ok (.iload_n 1, 1) := by decide +kernel
theorem dX10_maySplit_47 : decode cX10_maySplit 47 = .ok (.iaload, 1) := by decide +kernel
theorem dX10_maySplit_48 : decode cX10_maySplit 48 = .ok (.iconst 2, 1) := by decide +kernel
theorem dX10_maySplit_49 : decode cX10_maySplit 49 = .ok (.if_icmp .le 7, 3) := by decide +kernel
theorem dX10_maySplit_52 : decode cX10_maySplit 52 = .ok (.iconst 1, 1) := by decide +kernel
theorem dX10_maySplit_53 : decode cX10_maySplit 53 = .ok (.goto 4, 3) := by decide +kernel
theorem dX10_maySplit_56 : decode cX10_maySplit 56 = .ok (.iconst 0, 1) := by decide +kernel
theorem dX10_maySplit_57 : decode cX10_maySplit 57 = .ok (.ireturn, 1) := by decide +kernel
theorem dX10_splitNow_0 : decode cX10_splitNow 0 = .ok (.iconst 0, 1) := by decide +kernel
theorem dX10_splitNow_1 : decode cX10_splitNow 1 = .ok (.istore_n 3, 1) := by decide +kernel
theorem dX10_splitNow_2 : decode cX10_splitNow 2 = .ok (.aload_n 0, 1) := by decide +kernel
theorem dX10_splitNow_3 : decode cX10_splitNow 3 = .ok (.getfield 47, 3) := by decide +kernel
theorem dX10_splitNow_6 : decode cX10_splitNow 6 = .ok (.iload_n 3, 1) := by decide +kernel
theorem dX10_splitNow_7 : decode cX10_splitNow 7 = .ok (.baload, 1) := by decide +kernel
theorem dX10_splitNow_8 : decode cX10_splitNow 8 = .ok (.ifCond .eq 9, 3) := by decide +kernel
theorem dX10_splitNow_11 : decode cX10_splitNow 11 = .ok (.iinc 3 1, 3) := by decide +kernel
theorem dX10_splitNow_14 : decode cX10_splitNow 14 = .ok (.goto (-12), 3) := by decide +kernel
theorem dX10_splitNow_17 : decode cX10_splitNow 17 = .ok (.aload_n 0, 1) := by decide +kernel
theorem dX10_splitNow_18 : decode cX10_splitNow 18 = .ok (.getfield 50, 3) := by decide +kernel
theorem dX10_splitNow_21 : decode cX10_splitNow 21 = .ok (.iload_n 1, 1) := by decide +kernel
theorem dX10_splitNow_22 : decode cX10_splitNow 22 = .ok (.iaload, 1) := by decide +kernel
theorem dX10_splitNow_23 : decode cX10_splitNow 23 = .ok (.istore 4, 2) := by decide +kernel
theorem dX10_splitNow_25 : decode cX10_splitNow 25 = .ok (.aload_n 0, 1) := by decide +kernel
theorem dX10_splitNow_26 : decode cX10_splitNow 26 = .ok (.invokevirtual 199, 3) := by decide +kernel
theorem dX10_splitNow_29 : decode cX10_splitNow 29 = .ok (.istore 5, 2) := by decide +kernel
theorem dX10_splitNow_31 : decode cX10_splitNow 31 = .ok (.aload_n 0, 1) := by decide +kernel
theorem dX10_splitNow_32 : decode cX10_splitNow 32 = .ok (.invokevirtual 199, 3) := by decide +kernel
theorem dX10_splitNow_35 : decode cX10_splitNow 35 = .ok (.istore 6, 2) := by decide +kernel
theorem dX10_splitNow_37 : decode cX10_splitNow 37 = .ok (.iload_n 2, 1) := by decide +kernel
theorem dX10_splitNow_38 : decode cX10_splitNow 38 = .ok (.ifCond .eq 13, 3) := by decide +kernel
theorem dX10_splitNow_41 : decode cX10_splitNow 41 = .ok (.aload_n 0, 1) := by decide +kernel
theorem dX10_splitNow_42 : decode cX10_splitNow 42 = .ok (.getfield 41, 3) := by decide +kernel
theorem dX10_splitNow_45 : decode cX10_splitNow 45 = .ok (.iload 4, 2) := by decide +kernel
theorem dX10_splitNow_47 : decode cX10_splitNow 47 = .ok (.iaload, 1) := by decide +kernel
theorem dX10_splitNow_48 : decode cX10_splitNow 48 = .ok (.goto 10, 3) := by decide +kernel
theorem dX10_splitNow_51 : decode cX10_splitNow 51 = .ok (.aload_n 0, 1) := by decide +kernel
theorem dX10_splitNow_52 : decode cX10_splitNow 52 = .ok (.getfield 38, 3) := by decide +kernel
theorem dX10_splitNow_55 : decode cX10_splitNow 55 = .ok (.iload 4, 2) := by decide +kernel
theorem dX10_splitNow_57 : decode cX10_splitNow 57 = .ok (.iaload, 1) := by decide +kernel
theorem dX10_splitNow_58 : decode cX10_splitNow 58 = .ok (.istore 7, 2) := by decide +kernel
theorem dX10_splitNow_60 : decode cX10_splitNow 60 = .ok (.iload 7, 2) := by decide +kernel
theorem dX10_splitNow_62 : decode cX10_splitNow 62 = .ok (.iconst 1, 1) := by decide +kernel
theorem dX10_splitNow_63 : decode cX10_splitNow 63 = .ok (.isub, 1) := by decide +kernel
theorem dX10_splitNow_64 : decode cX10_splitNow 64 = .ok (.iconst 2, 1) := by decide +kernel
theorem dX10_splitNow_65 : decode cX10_splitNow 65 = .ok (.idiv, 1) := by decide +kernel
theorem dX10_splitNow_66 : decode cX10_splitNow 66 = .ok (.istore 8, 2) := by decide +kernel
theorem dX10_splitNow_68 : decode cX10_splitNow 68 = .ok (.aload_n 0, 1) := by decide +kernel
theorem dX10_splitNow_69 : decode cX10_splitNow 69 = .ok (.getfield 13, 3) := by decide +kernel
theorem dX10_splitNow_72 : decode cX10_splitNow 72 = .ok (.iload 5, 2) := by decide +kernel
theorem dX10_splitNow_74 : decode cX10_splitNow 74 = .ok (.iload_n 1, 1) := by decide +kernel
theorem dX10_splitNow_75 : decode cX10_splitNow 75 = .ok (.iastore, 1) := by decide +kernel
theorem dX10_splitNow_76 : decode cX10_splitNow 76 = .ok (.aload_n 0, 1) := by decide +kernel
theorem dX10_splitNow_77 : decode cX10_splitNow 77 = .ok (.getfield 13, 3) := by decide +kernel
theorem dX10_splitNow_80 : decode cX10_splitNow 80 = .ok (.iload 6, 2) := by decide +kernel
theorem dX10_splitNow_82 : decode cX10_splitNow 82 = .ok (.iload_n 3, 1) := by decide +kernel
theorem dX10_splitNow_83 : decode cX10_splitNow 83 = .ok (.iastore, 1) := by decide +kernel
theorem dX10_splitNow_84 : decode cX10_splitNow 84 = .ok (.aload_n 0, 1) := by decide +kernel
theorem dX10_splitNow_85 : decode cX10_splitNow 85 = .ok (.getfield 50, 3) := by decide +kernel
theorem dX10_splitNow_88 : decode cX10_splitNow 88 = .ok (.iload_n 1, 1) := by decide +kernel
theorem dX10_splitNow_89 : decode cX10_splitNow 89 = .ok (.iload 5, 2) := by decide +kernel
theorem dX10_splitNow_91 : decode cX10_splitNow 91 = .ok (.iastore, 1) := by decide +kernel
theorem dX10_splitNow_92 : decode cX10_splitNow 92 = .ok (.aload_n 0, 1) := by decide +kernel
theorem dX10_splitNow_93 : decode cX10_splitNow 93 = .ok (.getfield 50, 3) := by decide +kernel
theorem dX10_splitNow_96 : decode cX10_splitNow 96 = .ok (.iload_n 3, 1) := by decide +kernel
theorem dX10_splitNow_97 : decode cX10_splitNow 97 = .ok (.iload 6, 2) := by decide +kernel
theorem dX10_splitNow_99 : decode cX10_splitNow 99 = .ok (.iastore, 1) := by decide +kernel
theorem dX10_splitNow_100 : decode cX10_splitNow 100 = .ok (.aload_n 0, 1) := by decide +kernel
theorem dX10_splitNow_101 : decode cX10_splitNow 101 = .ok (.getfield 13, 3) := by decide +kernel
theorem dX10_splitNow_104 : decode cX10_splitNow 104 = .ok (.iload 4, 2) := by decide +kernel
theorem dX10_splitNow_106 : decode cX10_splitNow 106 = .ok (.iconst (-1), 1) := by decide +kernel
theorem dX10_splitNow_107 : decode cX10_splitNow 107 = .ok (.iastore, 1) := by decide +kernel
theorem dX10_splitNow_108 : decode cX10_splitNow 108 = .ok (.aload_n 0, 1) := by decide +kernel
theorem dX10_splitNow_109 : decode cX10_splitNow 109 = .ok (.getfield 17, 3) := by decide +kernel
theorem dX10_splitNow_112 : decode cX10_splitNow 112 = .ok (.iload 4, 2) := by decide +kernel
theorem dX10_splitNow_114 : decode cX10_splitNow 114 = .ok (.iload 5, 2) := by decide +kernel
theorem dX10_splitNow_116 : decode cX10_splitNow 116 = .ok (.iastore, 1) := by decide +kernel
theorem dX10_splitNow_117 : decode cX10_splitNow 117 = .ok (.aload_n 0, 1) := by decide +kernel
theorem dX10_splitNow_118 : decode cX10_splitNow 118 = .ok (.getfield 20, 3) := by decide +kernel
theorem dX10_splitNow_121 : decode cX10_splitNow 121 = .ok (.iload 4, 2) := by decide +kernel
theorem dX10_splitNow_123 : decode cX10_splitNow 123 = .ok (.iload 6, 2) := by decide +kernel
theorem dX10_splitNow_125 : decode cX10_splitNow 125 = .ok (.iastore, 1) := by decide +kernel
theorem dX10_splitNow_126 : decode cX10_splitNow 126 = .ok (.aload_n 0, 1) := by decide +kernel
theorem dX10_splitNow_127 : decode cX10_splitNow 127 = .ok (.getfield 26, 3) := by decide +kernel
theorem dX10_splitNow_130 : decode cX10_splitNow 130 = .ok (.iload 4, 2) := by decide +kernel
theorem dX10_splitNow_132 : decode cX10_splitNow 132 = .ok (.iload_n 2, 1) := by decide +kernel
theorem dX10_splitNow_133 : decode cX10_splitNow 133 = .ok (.bastore, 1) := by decide +kernel
theorem dX10_splitNow_134 : decode cX10_splitNow 134 = .ok (.aload_n 0, 1) := by decide +kernel
theorem dX10_splitNow_135 : decode cX10_splitNow 135 = .ok (.getfield 29, 3) := by decide +kernel
theorem dX10_splitNow_138 : decode cX10_splitNow 138 = .ok (.iload 4, 2) := by decide +kernel
theorem dX10_splitNow_140 : decode cX10_splitNow 140 = .ok (.iload 8, 2) := by decide +kernel
theorem dX10_splitNow_142 : decode cX10_splitNow 142 = .ok (.iastore, 1) := by decide +kernel
theorem dX10_splitNow_143 : decode cX10_splitNow 143 = .ok (.aload_n 0, 1) := by decide +kernel
theorem dX10_splitNow_144 : decode cX10_splitNow 144 = .ok (.getfield 23, 3) := by decide +kernel
theorem dX10_splitNow_147 : decode cX10_splitNow 147 = .ok (.iload 5, 2) := by decide +kernel
theorem dX10_splitNow_149 : decode cX10_splitNow 149 = .ok (.iload 4, 2) := by decide +kernel
theorem dX10_splitNow_151 : decode cX10_splitNow 151 = .ok (.iastore, 1) := by decide +kernel
theorem dX10_splitNow_152 : decode cX10_splitNow 152 = .ok (.aload_n 0, 1) := by decide +kernel
theorem dX10_splitNow_153 : decode cX10_splitNow 153 = .ok (.getfield 23, 3) := by decide +kernel
theorem dX10_splitNow_156 : decode cX10_splitNow 156 = .ok (.iload 6, 2) := by decide +kernel
theorem dX10_splitNow_158 : decode cX10_splitNow 158 = .ok (.iload 4, 2) := by decide +kernel
theorem dX10_splitNow_160 : decode cX10_splitNow 160 = .ok (.iastore, 1) := by decide +kernel
theorem dX10_splitNow_161 : decode cX10_splitNow 161 = .ok (.aload_n 0, 1) := by decide +kernel
theorem dX10_splitNow_162 : decode cX10_splitNow 162 = .ok (.getfield 47, 3) := by decide +kernel
theorem dX10_splitNow_165 : decode cX10_splitNow 165 = .ok (.iload_n 3, 1) := by decide +kernel
theorem dX10_splitNow_166 : decode cX10_splitNow 166 = .ok (.iconst 1, 1) := by decide +kernel
theorem dX10_splitNow_167 : decode cX10_splitNow 167 = .ok (.bastore, 1) := by decide +kernel
theorem dX10_splitNow_168 : decode cX10_splitNow 168 = .ok (.aload_n 0, 1) := by decide +kernel
theorem dX10_splitNow_169 : decode cX10_splitNow 169 = .ok (.iload_n 3, 1) := by decide +kernel
theorem dX10_splitNow_170 : decode cX10_splitNow 170 = .ok (.iload_n 2, 1) := by decide +kernel
theorem dX10_splitNow_171 : decode cX10_splitNow 171 = .ok (.ifCond .eq 13, 3) := by decide +kernel
theorem dX10_splitNow_174 : decode cX10_splitNow 174 = .ok (.aload_n 0, 1) := by decide +kernel
theorem dX10_splitNow_175 : decode cX10_splitNow 175 = .ok (.getfield 38, 3) := by decide +kernel
theorem dX10_splitNow_178 : decode cX10_splitNow 178 = .ok (.iload 4, 2) := by decide +kernel
theorem dX10_splitNow_180 : decode cX10_splitNow 180 = .ok (.iaload, 1) := by decide +kernel
theorem dX10_splitNow_181 : decode cX10_splitNow 181 = .ok (.goto 10, 3) := by decide +kernel
theorem dX10_splitNow_184 : decode cX10_splitNow 184 = .ok (.iload 7, 2) := by decide +kernel
theorem dX10_splitNow_186 : decode cX10_splitNow 186 = .ok (.iconst 1, 1) := by decide +kernel
theorem dX10_splitNow_187 : decode cX10_splitNow 187 = .ok (.isub, 1) := by decide +kernel
theorem dX10_splitNow_188 : decode cX10_splitNow 188 = .ok (.iload 8, 2) := by decide +kernel
theorem dX10_splitNow_190 : decode cX10_splitNow 190 = .ok (.isub, 1) := by decide +kernel
theorem dX10_splitNow_191 : decode cX10_splitNow 191 = .ok (.iload_n 2, 1) := by decide +kernel
theorem dX10_splitNow_192 : decode cX10_splitNow 192 = .ok (.ifCond .eq 13, 3) := by decide +kernel
theorem dX10_splitNow_195 : decode cX10_splitNow 195 = .ok (.iload 7, 2) := by decide +kernel
theorem dX10_splitNow_197 : decode cX10_splitNow 197 = .ok (.iconst 1, 1) := by decide +kernel
theorem dX10_splitNow_198 : decode cX10_splitNow 198 = .ok (.isub, 1) := by decide +kernel
theorem dX10_splitNow_199 : decode cX10_splitNow 199 = .ok (.iload 8, 2) := by decide +kernel
theorem dX10_splitNow_201 : decode cX10_splitNow 201 = .ok (.isub, 1) := by decide +kernel
theorem dX10_splitNow_202 : decode cX10_splitNow 202 = .ok (.goto 10, 3) := by decide +kernel
theorem dX10_splitNow_205 : decode cX10_splitNow 205 = .ok (.aload_n 0, 1) := by decide +kernel
theorem dX10_splitNow_206 : decode cX10_splitNow 206 = .ok (.getfield 41, 3) := by decide +kernel
theorem dX10_splitNow_209 : decode cX10_splitNow 209 = .ok (.iload 4, 2) := by decide +kernel
theorem dX10_splitNow_211 : decode cX10_splitNow 211 = .ok (.iaload, 1) := by decide +kernel
theorem dX10_splitNow_212 : decode cX10_splitNow 212 = .ok (.invokevirtual 169, 3) := by decide +kernel
theorem dX10_splitNow_215 : decode cX10_splitNow 215 = .ok (.aload_n 0, 1) := by decide +kernel
theorem dX10_splitNow_216 : decode cX10_splitNow 216 = .ok (.iload 4, 2) := by decide +kernel
theorem dX10_splitNow_218 : decode cX10_splitNow 218 = .ok (.aload_n 0, 1) := by decide +kernel
theorem dX10_splitNow_219 : decode cX10_splitNow 219 = .ok (.getfield 32, 3) := by decide +kernel
theorem dX10_splitNow_222 : decode cX10_splitNow 222 = .ok (.iload 4, 2) := by decide +kernel
theorem dX10_splitNow_224 : decode cX10_splitNow 224 = .ok (.iaload, 1) := by decide +kernel
theorem dX10_splitNow_225 : decode cX10_splitNow 225 = .ok (.aload_n 0, 1) := by decide +kernel
theorem dX10_splitNow_226 : decode cX10_splitNow 226 = .ok (.getfield 35, 3) := by decide +kernel
theorem dX10_splitNow_229 : decode cX10_splitNow 229 = .ok (.iload 4, 2) := by decide +kernel
theorem dX10_splitNow_231 : decode cX10_splitNow 231 = .ok (.iaload, 1) := by decide +kernel
theorem dX10_splitNow_232 : decode cX10_splitNow 232 = .ok (.aload_n 0, 1) := by decide +kernel
theorem dX10_splitNow_233 : decode cX10_splitNow 233 = .ok (.getfield 38, 3) := by decide +kernel
theorem dX10_splitNow_236 : decode cX10_splitNow 236 = .ok (.iload 4, 2) := by decide +kernel
theorem dX10_splitNow_238 : decode cX10_splitNow 238 = .ok (.iaload, 1) := by decide +kernel
theorem dX10_splitNow_239 : decode cX10_splitNow 239 = .ok (.aload_n 0, 1) := by decide +kernel
theorem dX10_splitNow_240 : decode cX10_splitNow 240 = .ok (.getfield 41, 3) := by decide +kernel
theorem dX10_splitNow_243 : decode cX10_splitNow 243 = .ok (.iload 4, 2) := by decide +kernel
theorem dX10_splitNow_245 : decode cX10_splitNow 245 = .ok (.iaload, 1) := by decide +kernel
theorem dX10_splitNow_246 : decode cX10_splitNow 246 = .ok (.invokevirtual 203, 3) := by decide +kernel
theorem dX10_splitNow_249 : decode cX10_splitNow 249 = .ok (.aload_n 0, 1) := by decide +kernel
theorem dX10_splitNow_250 : decode cX10_splitNow 250 = .ok (.iload_n 3, 1) := by decide +kernel
theorem dX10_splitNow_251 : decode cX10_splitNow 251 = .ok (.putfield 207, 3) := by decide +kernel
theorem dX10_splitNow_254 : decode cX10_splitNow 254 = .ok (.iload_n 3, 1) := by decide +kernel
theorem dX10_splitNow_255 : decode cX10_splitNow 255 = .ok (.ireturn, 1) := by decide +kernel
theorem dX10_panes_0 : decode cX10_panes 0 = .ok (.iconst 0, 1) := by decide +kernel
theorem dX10_panes_1 : decode cX10_panes 1 = .ok (.istore_n 1, 1) := by decide +kernel
theorem dX10_panes_2 : decode cX10_panes 2 = .ok (.iconst 0, 1) := by decide +kernel
theorem dX10_panes_3 : decode cX10_panes 3 = .ok (.istore_n 2, 1) := by decide +kernel
theorem dX10_panes_4 : decode cX10_panes 4 = .ok (.iload_n 2, 1) := by decide +kernel
theorem dX10_panes_5 : decode cX10_panes 5 = .ok (.bipush 8, 2) := by decide +kernel
theorem dX10_panes_7 : decode cX10_panes 7 = .ok (.if_icmp .ge 26, 3) := by decide +kernel
theorem dX10_panes_10 : decode cX10_panes 10 = .ok (.aload_n 0, 1) := by decide +kernel
theorem dX10_panes_11 : decode cX10_panes 11 = .ok (.getfield 47, 3) := by decide +kernel
theorem dX10_panes_14 : decode cX10_panes 14 = .ok (.iload_n 2, 1) := by decide +kernel
theorem dX10_panes_15 : decode cX10_panes 15 = .ok (.baload, 1) := by decide +kernel
theorem dX10_panes_16 : decode cX10_panes 16 = .ok (.ifCond .eq 9, 3) := by decide +kernel
theorem dX10_panes_19 : decode cX10_panes 19 = .ok (.iload_n 1, 1) := by decide +kernel
theorem dX10_panes_20 : decode cX10_panes 20 = .ok (.iconst 1, 1) := by decide +kernel
theorem dX10_panes_21 : decode cX10_panes 21 = .ok (.iadd, 1) := by decide +kernel
theorem dX10_panes_22 : decode cX10_panes 22 = .ok (.goto 4, 3) := by decide +kernel
theorem dX10_panes_25 : decode cX10_panes 25 = .ok (.iload_n 1, 1) := by decide +kernel
theorem dX10_panes_26 : decode cX10_panes 26 = .ok (.istore_n 1, 1) := by decide +kernel
theorem dX10_panes_27 : decode cX10_panes 27 = .ok (.iinc 2 1, 3) := by decide +kernel
theorem dX10_panes_30 : decode cX10_panes 30 = .ok (.goto (-26), 3) := by decide +kernel
theorem dX10_panes_33 : decode cX10_panes 33 = .ok (.iload_n 1, 1) := by decide +kernel
theorem dX10_panes_34 : decode cX10_panes 34 = .ok (.ireturn, 1) := by decide +kernel
theorem dX10_closeNow_0 : decode cX10_closeNow 0 = .ok (.aload_n 0, 1) := by decide +kernel
theorem dX10_closeNow_1 : decode cX10_closeNow 1 = .ok (.getfield 50, 3) := by decide +kernel
theorem dX10_closeNow_4 : decode cX10_closeNow 4 = .ok (.iload_n 1, 1) := by decide +kernel
theorem dX10_closeNow_5 : decode cX10_closeNow 5 = .ok (.iaload, 1) := by decide +kernel
theorem dX10_closeNow_6 : decode cX10_closeNow 6 = .ok (.istore_n 2, 1) := by decide +kernel
theorem dX10_closeNow_7 : decode cX10_closeNow 7 = .ok (.aload_n 0, 1) := by decide +kernel
theorem dX10_closeNow_8 : decode cX10_closeNow 8 = .ok (.getfield 23, 3) := by decide +kernel
theorem dX10_closeNow_11 : decode cX10_closeNow 11 = .ok (.iload_n 2, 1) := by decide +kernel
theorem dX10_closeNow_12 : decode cX10_closeNow 12 = .ok (.iaload, 1) := by decide +kernel
theorem dX10_closeNow_13 : decode cX10_closeNow 13 = .ok (.istore_n 3, 1) := by decide +kernel
theorem dX10_closeNow_14 : decode cX10_closeNow 14 = .ok (.aload_n 0, 1) := by decide +kernel
theorem dX10_closeNow_15 : decode cX10_closeNow 15 = .ok (.getfield 17, 3) := by decide +kernel
theorem dX10_closeNow_18 : decode cX10_closeNow 18 = .ok (.iload_n 3, 1) := by decide +kernel
theorem dX10_closeNow_19 : decode cX10_closeNow 19 = .ok (.iaload, 1) := by decide +kernel
theorem dX10_closeNow_20 : decode cX10_closeNow 20 = .ok (.iload_n 2, 1) := by decide +kernel
theorem dX10_closeNow_21 : decode cX10_closeNow 21 = .ok (.if_icmp .ne 12, 3) := by decide +kernel
theorem dX10_closeNow_24 : decode cX10_closeNow 24 = .ok (.aload_n 0, 1) := by decide +kernel
theorem dX10_closeNow_25 : decode cX10_closeNow 25 = .ok (.getfield 20, 3) := by decide +kernel
theorem dX10_closeNow_28 : decode cX10_closeNow 28 = .ok (.iload_n 3, 1) := by decide +kernel
theorem dX10_closeNow_29 : decode cX10_closeNow 29 = .ok (.iaload, 1) := by decide +kernel
theorem dX10_closeNow_30 : decode cX10_closeNow 30 = .ok (.goto 9, 3) := by decide +kernel
theorem dX10_closeNow_33 : decode cX10_closeNow 33 = .ok (.aload_n 0, 1) := by decide +kernel
theorem dX10_closeNow_34 : decode cX10_closeNow 34 = .ok (.getfield 17, 3) := by decide +kernel
theorem dX10_closeNow_37 : decode cX10_closeNow 37 = .ok (.iload_n 3, 1) := by decide +kernel
theorem dX10_closeNow_38 : decode cX10_closeNow 38 = .ok (.iaload, 1) := by decide +kernel
theorem dX10_closeNow_39 : decode cX10_closeNow 39 = .ok (.istore 4, 2) := by decide +kernel
theorem dX10_closeNow_41 : decode cX10_closeNow 41 = .ok (.aload_n 0, 1) := by decide +kernel
theorem dX10_closeNow_42 : decode cX10_closeNow 42 = .ok (.getfield 23, 3) := by decide +kernel
theorem dX10_closeNow_45 : decode cX10_closeNow 45 = .ok (.iload_n 3, 1) := by decide +kernel
theorem dX10_closeNow_46 : decode cX10_closeNow 46 = .ok (.iaload, 1) := by decide +kernel
theorem dX10_closeNow_47 : decode cX10_closeNow 47 = .ok (.istore 5, 2) := by decide +kernel
theorem dX10_closeNow_49 : decode cX10_closeNow 49 = .ok (.aload_n 0, 1) := by decide +kernel
theorem dX10_closeNow_50 : decode cX10_closeNow 50 = .ok (.getfield 23, 3) := by decide +kernel
theorem dX10_closeNow_53 : decode cX10_closeNow 53 = .ok (.iload 4, 2) := by decide +kernel
theorem dX10_closeNow_55 : decode cX10_closeNow 55 = .ok (.iload 5, 2) := by decide +kernel
theorem dX10_closeNow_57 : decode cX10_closeNow 57 = .ok (.iastore, 1) := by decide +kernel
theorem dX10_closeNow_58 : decode cX10_closeNow 58 = .ok (.iload 5, 2) := by decide +kernel
theorem dX10_closeNow_60 : decode cX10_closeNow 60 = .ok (.iconst (-1), 1) := by decide +kernel
theorem dX10_closeNow_61 : decode cX10_closeNow 61 = .ok (.if_icmp .ne 12, 3) := by decide +kernel
theorem dX10_closeNow_64 : decode cX10_closeNow 64 = .ok (.aload_n 0, 1) := by decide +kernel
theorem dX10_closeNow_65 : decode cX10_closeNow 65 = .ok (.iload 4, 2) := by decide +kernel
theorem dX10_closeNow_67 : decode cX10_closeNow 67 = .ok (.putfield 210, 3) := by decide +kernel
theorem dX10_closeNow_70 : decode cX10_closeNow 70 = .ok (.goto 35, 3) := by decide +kernel
theorem dX10_closeNow_73 : decode cX10_closeNow 73 = .ok (.aload_n 0, 1) := by decide +kernel
theorem dX10_closeNow_74 : decode cX10_closeNow 74 = .ok (.getfield 17, 3) := by decide +kernel
theorem dX10_closeNow_77 : decode cX10_closeNow 77 = .ok (.iload 5, 2) := by decide +kernel
theorem dX10_closeNow_79 : decode cX10_closeNow 79 = .ok (.iaload, 1) := by decide +kernel
theorem dX10_closeNow_80 : decode cX10_closeNow 80 = .ok (.iload_n 3, 1) := by decide +kernel
theorem dX10_closeNow_81 : decode cX10_closeNow 81 = .ok (.if_icmp .ne 15, 3) := by decide +kernel
theorem dX10_closeNow_84 : decode cX10_closeNow 84 = .ok (.aload_n 0, 1) := by decide +kernel
theorem dX10_closeNow_85 : decode cX10_closeNow 85 = .ok (.getfield 17, 3) := by decide +kernel
theorem dX10_closeNow_88 : decode cX10_closeNow 88 = .ok (.iload 5, 2) := by decide +kernel
theorem dX10_closeNow_90 : decode cX10_closeNow 90 = .ok (.iload 4, 2) := by decide +kernel
theorem dX10_closeNow_92 : decode cX10_closeNow 92 = .ok (.iastore, 1) := by decide +kernel
theorem dX10_closeNow_93 : decode cX10_closeNow 93 = .ok (.goto 12, 3) := by decide +kernel
theorem dX10_closeNow_96 : decode cX10_closeNow 96 = .ok (.aload_n 0, 1) := by decide +kernel
theorem dX10_closeNow_97 : decode cX10_closeNow 97 = .ok (.getfield 20, 3) := by decide +kernel
theorem dX10_closeNow_100 : decode cX10_closeNow 100 = .ok (.iload 5, 2) := by decide +kernel
theorem dX10_closeNow_102 : decode cX10_closeNow 102 = .ok (.iload 4, 2) := by decide +kernel
theorem dX10_closeNow_104 : decode cX10_closeNow 104 = .ok (.iastore, 1) := by decide +kernel
theorem dX10_closeNow_105 : decode cX10_closeNow 105 = .ok (.aload_n 0, 1) := by decide +kernel
theorem dX10_closeNow_106 : decode cX10_closeNow 106 = .ok (.getfield 7, 3) := by decide +kernel
theorem dX10_closeNow_109 : decode cX10_closeNow 109 = .ok (.iload_n 2, 1) := by decide +kernel
theorem dX10_closeNow_110 : decode cX10_closeNow 110 = .ok (.iconst 0, 1) := by decide +kernel
theorem dX10_closeNow_111 : decode cX10_closeNow 111 = .ok (.bastore, 1) := by decide +kernel
theorem dX10_closeNow_112 : decode cX10_closeNow 112 = .ok (.aload_n 0, 1) := by decide +kernel
theorem dX10_closeNow_113 : decode cX10_closeNow 113 = .ok (.getfield 7, 3) := by decide +kernel
theorem dX10_closeNow_116 : decode cX10_closeNow 116 = .ok (.iload_n 3, 1) := by decide +kernel
theorem dX10_closeNow_117 : decode cX10_closeNow 117 = .ok (.iconst 0, 1) := by decide +kernel
theorem dX10_closeNow_118 : decode cX10_closeNow 118 = .ok (.bastore, 1) := by decide +kernel
theorem dX10_closeNow_119 : decode cX10_closeNow 119 = .ok (.aload_n 0, 1) := by decide +kernel
theorem dX10_closeNow_120 : decode cX10_closeNow 120 = .ok (.getfield 47, 3) := by decide +kernel
theorem dX10_closeNow_123 : decode cX10_closeNow 123 = .ok (.iload_n 1, 1) := by decide +kernel
theorem dX10_closeNow_124 : decode cX10_closeNow 124 = .ok (.iconst 0, 1) := by decide +kernel
theorem dX10_closeNow_125 : decode cX10_closeNow 125 = .ok (.bastore, 1) := by decide +kernel
theorem dX10_closeNow_126 : decode cX10_closeNow 126 = .ok (.aload_n 0, 1) := by decide +kernel
theorem dX10_closeNow_127 : decode cX10_closeNow 127 = .ok (.iload 4, 2) := by decide +kernel
theorem dX10_closeNow_129 : decode cX10_closeNow 129 = .ok (.aload_n 0, 1) := by decide +kernel
theorem dX10_closeNow_130 : decode cX10_closeNow 130 = .ok (.getfield 32, 3) := by decide +kernel
theorem dX10_closeNow_133 : decode cX10_closeNow 133 = .ok (.iload_n 3, 1) := by decide +kernel
theorem dX10_closeNow_134 : decode cX10_closeNow 134 = .ok (.iaload, 1) := by decide +kernel
theorem dX10_closeNow_135 : decode cX10_closeNow 135 = .ok (.aload_n 0, 1) := by decide +kernel
theorem dX10_closeNow_136 : decode cX10_closeNow 136 = .ok (.getfield 35, 3) := by decide +kernel
theorem dX10_closeNow_139 : decode cX10_closeNow 139 = .ok (.iload_n 3, 1) := by decide +kernel
theorem dX10_closeNow_140 : decode cX10_closeNow 140 = .ok (.iaload, 1) := by decide +kernel
theorem dX10_closeNow_141 : decode cX10_closeNow 141 = .ok (.aload_n 0, 1) := by decide +kernel
theorem dX10_closeNow_142 : decode cX10_closeNow 142 = .ok (.getfield 38, 3) := by decide +kernel
theorem dX10_closeNow_145 : decode cX10_closeNow 145 = .ok (.iload_n 3, 1) := by decide +kernel
theorem dX10_closeNow_146 : decode cX10_closeNow 146 = .ok (.iaload, 1) := by decide +kernel
theorem dX10_closeNow_147 : decode cX10_closeNow 147 = .ok (.aload_n 0, 1) := by decide +kernel
theorem dX10_closeNow_148 : decode cX10_closeNow 148 = .ok (.getfield 41, 3) := by decide +kernel
theorem dX10_closeNow_151 : decode cX10_closeNow 151 = .ok (.iload_n 3, 1) := by decide +kernel
theorem dX10_closeNow_152 : decode cX10_closeNow 152 = .ok (.iaload, 1) := by decide +kernel
theorem dX10_closeNow_153 : decode cX10_closeNow 153 = .ok (.invokevirtual 203, 3) := by decide +kernel
theorem dX10_closeNow_156 : decode cX10_closeNow 156 = .ok (.aload_n 0, 1) := by decide +kernel
theorem dX10_closeNow_157 : decode cX10_closeNow 157 = .ok (.getfield 207, 3) := by decide +kernel
theorem dX10_closeNow_160 : decode cX10_closeNow 160 = .ok (.iload_n 1, 1) := by decide +kernel
theorem dX10_closeNow_161 : decode cX10_closeNow 161 = .ok (.if_icmp .ne 33, 3) := by decide +kernel
theorem dX10_closeNow_164 : decode cX10_closeNow 164 = .ok (.aload_n 0, 1) := by decide +kernel
theorem dX10_closeNow_165 : decode cX10_closeNow 165 = .ok (.iconst 0, 1) := by decide +kernel
theorem dX10_closeNow_166 : decode cX10_closeNow 166 = .ok (.putfield 207, 3) := by decide +kernel
theorem dX10_closeNow_169 : decode cX10_closeNow 169 = .ok (.aload_n 0, 1) := by decide +kernel
theorem dX10_closeNow_170 : decode cX10_closeNow 170 = .ok (.getfield 47, 3) := by decide +kernel
theorem dX10_closeNow_173 : decode cX10_closeNow 173 = .ok (.aload_n 0, 1) := by decide +kernel
theorem dX10_closeNow_174 : decode cX10_closeNow 174 = .ok (.getfield 207, 3) := by decide +kernel
theorem dX10_closeNow_177 : decode cX10_closeNow 177 = .ok (.baload, 1) := by decide +kernel
theorem dX10_closeNow_178 : decode cX10_closeNow 178 = .ok (.ifCond .ne 16, 3) := by decide +kernel
theorem dX10_closeNow_181 : decode cX10_closeNow 181 = .ok (.aload_n 0, 1) := by decide +kernel
theorem dX10_closeNow_182 : decode cX10_closeNow 182 = .ok (.dup, 1) := by decide +kernel
theorem dX10_closeNow_183 : decode cX10_closeNow 183 = .ok (.getfield 207, 3) := by decide +kernel
theorem dX10_closeNow_186 : decode cX10_closeNow 186 = .ok (.iconst 1, 1) := by decide +kernel
theorem dX10_closeNow_187 : decode cX10_closeNow 187 = .ok (.iadd, 1) := by decide +kernel
theorem dX10_closeNow_188 : decode cX10_closeNow 188 = .ok (.putfield 207, 3) := by decide +kernel
theorem dX10_closeNow_191 : decode cX10_closeNow 191 = .ok (.goto (-22), 3) := by decide +kernel
theorem dX10_closeNow_194 : decode cX10_closeNow 194 = .ok (.return_, 1) := by decide +kernel
theorem dX10_split_0 : decode cX10_split 0 = .ok (.aload_n 0, 1) := by decide +kernel
theorem dX10_split_1 : decode cX10_split 1 = .ok (.aload_n 0, 1) := by decide +kernel
theorem dX10_split_2 : decode cX10_split 2 = .ok (.iload_n 1, 1) := by decide +kernel
theorem dX10_split_3 : decode cX10_split 3 = .ok (.invokevirtual 213, 3) := by decide +kernel
theorem dX10_split_6 : decode cX10_split 6 = .ok (.ifCond .eq 7, 3) := by decide +kernel
theorem dX10_split_9 : decode cX10_split 9 = .ok (.iconst 1, 1) := by decide +kernel
theorem dX10_split_10 : decode cX10_split 10 = .ok (.goto 17, 3) := by decide +kernel
theorem dX10_split_13 : decode cX10_split 13 = .ok (.aload_n 0, 1) := by decide +kernel
theorem dX10_split_14 : decode cX10_split 14 = .ok (.iload_n 1, 1) := by decide +kernel
theorem dX10_split_15 : decode cX10_split 15 = .ok (.iload_n 2, 1) := by decide +kernel
theorem dX10_split_16 : decode cX10_split 16 = .ok (.invokevirtual 217, 3) := by decide +kernel
theorem dX10_split_19 : decode cX10_split 19 = .ok (.ifCond .eq 7, 3) := by decide +kernel
theorem dX10_split_22 : decode cX10_split 22 = .ok (.iconst 0, 1) := by decide +kernel
theorem dX10_split_23 : decode cX10_split 23 = .ok (.goto 4, 3) := by decide +kernel
theorem dX10_split_26 : decode cX10_split 26 = .ok (.iconst 2, 1) := by decide +kernel
theorem dX10_split_27 : decode cX10_split 27 = .ok (.putfield 173, 3) := by decide +kernel
theorem dX10_split_30 : decode cX10_split 30 = .ok (.aload_n 0, 1) := by decide +kernel
theorem dX10_split_31 : decode cX10_split 31 = .ok (.getfield 173, 3) := by decide +kernel
theorem dX10_split_34 : decode cX10_split 34 = .ok (.ifCond .le 7, 3) := by decide +kernel
theorem dX10_split_37 : decode cX10_split 37 = .ok (.iconst 0, 1) := by decide +kernel
theorem dX10_split_38 : decode cX10_split 38 = .ok (.goto 9, 3) := by decide +kernel
theorem dX10_split_41 : decode cX10_split 41 = .ok (.aload_n 0, 1) := by decide +kernel
theorem dX10_split_42 : decode cX10_split 42 = .ok (.iload_n 1, 1) := by decide +kernel
theorem dX10_split_43 : decode cX10_split 43 = .ok (.iload_n 2, 1) := by decide +kernel
theorem dX10_split_44 : decode cX10_split 44 = .ok (.invokevirtual 221, 3) := by decide +kernel
theorem dX10_split_47 : decode cX10_split 47 = .ok (.ireturn, 1) := by decide +kernel
theorem dX10_close_0 : decode cX10_close 0 = .ok (.aload_n 0, 1) := by decide +kernel
theorem dX10_close_1 : decode cX10_close 1 = .ok (.aload_n 0, 1) := by decide +kernel
theorem dX10_close_2 : decode cX10_close 2 = .ok (.iload_n 1, 1) := by decide +kernel
theorem dX10_close_3 : decode cX10_close 3 = .ok (.invokevirtual 213, 3) := by decide +kernel
theorem dX10_close_6 : decode cX10_close 6 = .ok (.ifCond .eq 7, 3) := by decide +kernel
theorem dX10_close_9 : decode cX10_close 9 = .ok (.iconst 1, 1) := by decide +kernel
theorem dX10_close_10 : decode cX10_close 10 = .ok (.goto 16, 3) := by decide +kernel
theorem dX10_close_13 : decode cX10_close 13 = .ok (.aload_n 0, 1) := by decide +kernel
theorem dX10_close_14 : decode cX10_close 14 = .ok (.invokevirtual 225, 3) := by decide +kernel
theorem dX10_close_17 : decode cX10_close 17 = .ok (.iconst 1, 1) := by decide +kernel
theorem dX10_close_18 : decode cX10_close 18 = .ok (.if_icmp .le 7, 3) := by decide +kernel
theorem dX10_close_21 : decode cX10_close 21 = .ok (.iconst 0, 1) := by decide +kernel
theorem dX10_close_22 : decode cX10_close 22 = .ok (.goto 4, 3) := by decide +kernel
theorem dX10_close_25 : decode cX10_close 25 = .ok (.iconst 2, 1) := by decide +kernel
theorem dX10_close_26 : decode cX10_close 26 = .ok (.putfield 173, 3) := by decide +kernel
theorem dX10_close_29 : decode cX10_close 29 = .ok (.aload_n 0, 1) := by decide +kernel
theorem dX10_close_30 : decode cX10_close 30 = .ok (.getfield 173, 3) := by decide +kernel
theorem dX10_close_33 : decode cX10_close 33 = .ok (.ifCond .le 5, 3) := by decide +kernel
theorem dX10_close_36 : decode cX10_close 36 = .ok (.iconst 0, 1) := by decide +kernel
theorem dX10_close_37 : decode cX10_close 37 = .ok (.ireturn, 1) := by decide +kernel
theorem dX10_close_38 : decode cX10_close 38 = .ok (.aload_n 0, 1) := by decide +kernel
theorem dX10_close_39 : decode cX10_close 39 = .ok (.iload_n 1, 1) := by decide +kernel
theorem dX10_close_40 : decode cX10_close 40 = .ok (.invokevirtual 228, 3) := by decide +kernel
theorem dX10_close_43 : decode cX10_close 43 = .ok (.aload_n 0, 1) := by decide +kernel
theorem dX10_close_44 : decode cX10_close 44 = .ok (.getfield 207, 3) := by decide +kernel
theorem dX10_close_47 : decode cX10_close 47 = .ok (.ireturn, 1) := by decide +kernel
theorem dX10_focus_0 : decode cX10_focus 0 = .ok (.aload_n 0, 1) := by decide +kernel
theorem dX10_focus_1 : decode cX10_focus 1 = .ok (.aload_n 0, 1) := by decide +kernel
theorem dX10_focus_2 : decode cX10_focus 2 = .ok (.iload_n 1, 1) := by decide +kernel
theorem dX10_focus_3 : decode cX10_focus 3 = .ok (.invokevirtual 213, 3) := by decide +kernel
theorem dX10_focus_6 : decode cX10_focus 6 = .ok (.ifCond .eq 7, 3) := by decide +kernel
theorem dX10_focus_9 : decode cX10_focus 9 = .ok (.iconst 1, 1) := by decide +kernel
theorem dX10_focus_10 : decode cX10_focus 10 = .ok (.goto 4, 3) := by decide +kernel
theorem dX10_focus_13 : decode cX10_focus 13 = .ok (.iconst 0, 1) := by decide +kernel
theorem dX10_focus_14 : decode cX10_focus 14 = .ok (.putfield 173, 3) := by decide +kernel
theorem dX10_focus_17 : decode cX10_focus 17 = .ok (.aload_n 0, 1) := by decide +kernel
theorem dX10_focus_18 : decode cX10_focus 18 = .ok (.aload_n 0, 1) := by decide +kernel
theorem dX10_focus_19 : decode cX10_focus 19 = .ok (.getfield 173, 3) := by decide +kernel
theorem dX10_focus_22 : decode cX10_focus 22 = .ok (.ifCond .le 10, 3) := by decide +kernel
theorem dX10_focus_25 : decode cX10_focus 25 = .ok (.aload_n 0, 1) := by decide +kernel
theorem dX10_focus_26 : decode cX10_focus 26 = .ok (.getfield 207, 3) := by decide +kernel
theorem dX10_focus_29 : decode cX10_focus 29 = .ok (.goto 4, 3) := by decide +kernel
theorem dX10_focus_32 : decode cX10_focus 32 = .ok (.iload_n 1, 1) := by decide +kernel
theorem dX10_focus_33 : decode cX10_focus 33 = .ok (.putfield 207, 3) := by decide +kernel
theorem dX10_focus_36 : decode cX10_focus 36 = .ok (.return_, 1) := by decide +kernel
theorem dX10_moveRow_0 : decode cX10_moveRow 0 = .ok (.iconst 0, 1) := by decide +kernel
theorem dX10_moveRow_1 : decode cX10_moveRow 1 = .ok (.istore 4, 2) := by decide +kernel
theorem dX10_moveRow_3 : decode cX10_moveRow 3 = .ok (.iload 4, 2) := by decide +kernel
theorem dX10_moveRow_5 : decode cX10_moveRow 5 = .ok (.aload_n 0, 1) := by decide +kernel
theorem dX10_moveRow_6 : decode cX10_moveRow 6 = .ok (.getfield 53, 3) := by decide +kernel
theorem dX10_moveRow_9 : decode cX10_moveRow 9 = .ok (.iload_n 1, 1) := by decide +kernel
theorem dX10_moveRow_10 : decode cX10_moveRow 10 = .ok (.iaload, 1) := by decide +kernel
theorem dX10_moveRow_11 : decode cX10_moveRow 11 = .ok (.if_icmp .ge 61, 3) := by decide +kernel
theorem dX10_moveRow_14 : decode cX10_moveRow 14 = .ok (.aload_n 0, 1) := by decide +kernel
theorem dX10_moveRow_15 : decode cX10_moveRow 15 = .ok (.getfield 59, 3) := by decide +kernel
theorem dX10_moveRow_18 : decode cX10_moveRow 18 = .ok (.aload_n 0, 1) := by decide +kernel
theorem dX10_moveRow_19 : decode cX10_moveRow 19 = .ok (.iload_n 1, 1) := by decide +kernel
theorem dX10_moveRow_20 : decode cX10_moveRow 20 = .ok (.iload_n 3, 1) := by decide +kernel
theorem dX10_moveRow_21 : decode cX10_moveRow 21 = .ok (.iload 4, 2) := by decide +kernel
theorem dX10_moveRow_23 : decode cX10_moveRow 23 = .ok (.invokevirtual 231, 3) := by decide +kernel
theorem dX10_moveRow_26 : decode cX10_moveRow 26 = .ok (.aload_n 0, 1) := by decide +kernel
theorem dX10_moveRow_27 : decode cX10_moveRow 27 = .ok (.getfield 59, 3) := by decide +kernel
theorem dX10_moveRow_30 : decode cX10_moveRow 30 = .ok (.aload_n 0, 1) := by decide +kernel
theorem dX10_moveRow_31 : decode cX10_moveRow 31 = .ok (.iload_n 1, 1) := by decide +kernel
theorem dX10_moveRow_32 : decode cX10_moveRow 32 = .ok (.iload_n 2, 1) := by decide +kernel
theorem dX10_moveRow_33 : decode cX10_moveRow 33 = .ok (.iload 4, 2) := by decide +kernel
theorem dX10_moveRow_35 : decode cX10_moveRow 35 = .ok (.invokevirtual 231, 3) := by decide +kernel
theorem dX10_moveRow_38 : decode cX10_moveRow 38 = .ok (.iaload, 1) := by decide +kernel
theorem dX10_moveRow_39 : decode cX10_moveRow 39 = .ok (.iastore, 1) := by decide +kernel
theorem dX10_moveRow_40 : decode cX10_moveRow 40 = .ok (.aload_n 0, 1) := by decide +kernel
theorem dX10_moveRow_41 : decode cX10_moveRow 41 = .ok (.getfield 62, 3) := by decide +kernel
theorem dX10_moveRow_44 : decode cX10_moveRow 44 = .ok (.aload_n 0, 1) := by decide +kernel
theorem dX10_moveRow_45 : decode cX10_moveRow 45 = .ok (.iload_n 1, 1) := by decide +kernel
theorem dX10_moveRow_46 : decode cX10_moveRow 46 = .ok (.iload_n 3, 1) := by decide +kernel
theorem dX10_moveRow_47 : decode cX10_moveRow 47 = .ok (.iload 4, 2) := by decide +kernel
theorem dX10_moveRow_49 : decode cX10_moveRow 49 = .ok (.invokevirtual 231, 3) := by decide +kernel
theorem dX10_moveRow_52 : decode cX10_moveRow 52 = .ok (.aload_n 0, 1) := by decide +kernel
theorem dX10_moveRow_53 : decode cX10_moveRow 53 = .ok (.getfield 62, 3) := by decide +kernel
theorem dX10_moveRow_56 : decode cX10_moveRow 56 = .ok (.aload_n 0, 1) := by decide +kernel
theorem dX10_moveRow_57 : decode cX10_moveRow 57 = .ok (.iload_n 1, 1) := by decide +kernel
theorem dX10_moveRow_58 : decode cX10_moveRow 58 = .ok (.iload_n 2, 1) := by decide +kernel
theorem dX10_moveRow_59 : decode cX10_moveRow 59 = .ok (.iload 4, 2) := by decide +kernel
theorem dX10_moveRow_61 : decode cX10_moveRow 61 = .ok (.invokevirtual 231, 3) := by decide +kernel
theorem dX10_moveRow_64 : decode cX10_moveRow 64 = .ok (.iaload, 1) := by decide +kernel
theorem dX10_moveRow_65 : decode cX10_moveRow 65 = .ok (.iastore, 1) := by decide +kernel
theorem dX10_moveRow_66 : decode cX10_moveRow 66 = .ok (.iinc 4 1, 3) := by decide +kernel
theorem dX10_moveRow_69 : decode cX10_moveRow 69 = .ok (.goto (-66), 3) := by decide +kernel
theorem dX10_moveRow_72 : decode cX10_moveRow 72 = .ok (.return_, 1) := by decide +kernel
theorem dX10_blankRow_0 : decode cX10_blankRow 0 = .ok (.iconst 0, 1) := by decide +kernel
theorem dX10_blankRow_1 : decode cX10_blankRow 1 = .ok (.istore_n 3, 1) := by decide +kernel
theorem dX10_blankRow_2 : decode cX10_blankRow 2 = .ok (.iload_n 3, 1) := by decide +kernel
theorem dX10_blankRow_3 : decode cX10_blankRow 3 = .ok (.aload_n 0, 1) := by decide +kernel
theorem dX10_blankRow_4 : decode cX10_blankRow 4 = .ok (.getfield 53, 3) := by decide +kernel
theorem dX10_blankRow_7 : decode cX10_blankRow 7 = .ok (.iload_n 1, 1) := by decide +kernel
theorem dX10_blankRow_8 : decode cX10_blankRow 8 = .ok (.iaload, 1) := by decide +kernel
theorem dX10_blankRow_9 : decode cX10_blankRow 9 = .ok (.if_icmp .ge 26, 3) := by decide +kernel
theorem dX10_blankRow_12 : decode cX10_blankRow 12 = .ok (.aload_n 0, 1) := by decide +kernel
theorem dX10_blankRow_13 : decode cX10_blankRow 13 = .ok (.aload_n 0, 1) := by decide +kernel
theorem dX10_blankRow_14 : decode cX10_blankRow 14 = .ok (.iload_n 1, 1) := by decide +kernel
theorem dX10_blankRow_15 : decode cX10_blankRow 15 = .ok (.iload_n 2, 1) := by decide +kernel
theorem dX10_blankRow_16 : decode cX10_blankRow 16 = .ok (.iload_n 3, 1) := by decide +kernel
theorem dX10_blankRow_17 : decode cX10_blankRow 17 = .ok (.invokevirtual 231, 3) := by decide +kernel
theorem dX10_blankRow_20 : decode cX10_blankRow 20 = .ok (.aload_n 0, 1) := by decide +kernel
theorem dX10_blankRow_21 : decode cX10_blankRow 21 = .ok (.getfield 74, 3) := by decide +kernel
theorem dX10_blankRow_24 : decode cX10_blankRow 24 = .ok (.iload_n 1, 1) := by decide +kernel
theorem dX10_blankRow_25 : decode cX10_blankRow 25 = .ok (.iaload, 1) := by decide +kernel
theorem dX10_blankRow_26 : decode cX10_blankRow 26 = .ok (.invokevirtual 184, 3) := by decide +kernel
theorem dX10_blankRow_29 : decode cX10_blankRow 29 = .ok (.iinc 3 1, 3) := by decide +kernel
theorem dX10_blankRow_32 : decode cX10_blankRow 32 = .ok (.goto (-30), 3) := by decide +kernel
theorem dX10_blankRow_35 : decode cX10_blankRow 35 = .ok (.return_, 1) := by decide +kernel
theorem dX10_historyAt_0 : decode cX10_historyAt 0 = .ok (.bipush 30, 2) := by decide +kernel
theorem dX10_historyAt_2 : decode cX10_historyAt 2 = .ok (.iload_n 0, 1) := by decide +kernel
theorem dX10_historyAt_3 : decode cX10_historyAt 3 = .ok (.imul, 1) := by decide +kernel
theorem dX10_historyAt_4 : decode cX10_historyAt 4 = .ok (.iload_n 1, 1) := by decide +kernel
theorem dX10_historyAt_5 : decode cX10_historyAt 5 = .ok (.iadd, 1) := by decide +kernel
theorem dX10_historyAt_6 : decode cX10_historyAt 6 = .ok (.bipush 40, 2) := by decide +kernel
theorem dX10_historyAt_8 : decode cX10_historyAt 8 = .ok (.imul, 1) := by decide +kernel
theorem dX10_historyAt_9 : decode cX10_historyAt 9 = .ok (.iload_n 2, 1) := by decide +kernel
theorem dX10_historyAt_10 : decode cX10_historyAt 10 = .ok (.iadd, 1) := by decide +kernel
theorem dX10_historyAt_11 : decode cX10_historyAt 11 = .ok (.ireturn, 1) := by decide +kernel
theorem dX10_keepRow_0 : decode cX10_keepRow 0 = .ok (.aload_n 0, 1) := by decide +kernel
theorem dX10_keepRow_1 : decode cX10_keepRow 1 = .ok (.getfield 125, 3) := by decide +kernel
theorem dX10_keepRow_4 : decode cX10_keepRow 4 = .ok (.iload_n 1, 1) := by decide +kernel
theorem dX10_keepRow_5 : decode cX10_keepRow 5 = .ok (.iaload, 1) := by decide +kernel
theorem dX10_keepRow_6 : decode cX10_keepRow 6 = .ok (.bipush 30, 2) := by decide +kernel
theorem dX10_keepRow_8 : decode cX10_keepRow 8 = .ok (.if_icmp .ne 72, 3) := by decide +kernel
theorem dX10_keepRow_11 : decode cX10_keepRow 11 = .ok (.iconst 0, 1) := by decide +kernel
theorem dX10_keepRow_12 : decode cX10_keepRow 12 = .ok (.istore_n 2, 1) := by decide +kernel
theorem dX10_keepRow_13 : decode cX10_keepRow 13 = .ok (.iload_n 2, 1) := by decide +kernel
theorem dX10_keepRow_14 : decode cX10_keepRow 14 = .ok (.sipush 1160, 3) := by decide +kernel
theorem dX10_keepRow_17 : decode cX10_keepRow 17 = .ok (.if_icmp .ge 53, 3) := by decide +kernel
theorem dX10_keepRow_20 : decode cX10_keepRow 20 = .ok (.aload_n 0, 1) := by decide +kernel
theorem dX10_keepRow_21 : decode cX10_keepRow 21 = .ok (.getfield 119, 3) := by decide +kernel
theorem dX10_keepRow_24 : decode cX10_keepRow 24 = .ok (.iload_n 1, 1) := by decide +kernel
theorem dX10_keepRow_25 : decode cX10_keepRow 25 = .ok (.iconst 0, 1) := by decide +kernel
theorem dX10_keepRow_26 : decode cX10_keepRow 26 = .ok (.iload_n 2, 1) := by decide +kernel
theorem dX10_keepRow_27 : decode cX10_keepRow 27 = .ok (.invokestatic 235, 3) := by decide +kernel
theorem dX10_keepRow_30 : decode cX10_keepRow 30 = .ok (.aload_n 0, 1) := by decide +kernel
theorem dX10_keepRow_31 : decode cX10_keepRow 31 = .ok (.getfield 119, 3) := by decide +kernel
theorem dX10_keepRow_34 : decode cX10_keepRow 34 = .ok (.iload_n 1, 1) := by decide +kernel
theorem dX10_keepRow_35 : decode cX10_keepRow 35 = .ok (.iconst 1, 1) := by decide +kernel
theorem dX10_keepRow_36 : decode cX10_keepRow 36 = .ok (.iload_n 2, 1) := by decide +kernel
theorem dX10_keepRow_37 : decode cX10_keepRow 37 = .ok (.invokestatic 235, 3) := by decide +kernel
theorem dX10_keepRow_40 : decode cX10_keepRow 40 = .ok (.iaload, 1) := by decide +kernel
theorem dX10_keepRow_41 : decode cX10_keepRow 41 = .ok (.iastore, 1) := by decide +kernel
theorem dX10_keepRow_42 : decode cX10_keepRow 42 = .ok (.aload_n 0, 1) := by decide +kernel
theorem dX10_keepRow_43 : decode cX10_keepRow 43 = .ok (.getfield 122, 3) := by decide +kernel
theorem dX10_keepRow_46 : decode cX10_keepRow 46 = .ok (.iload_n 1, 1) := by decide +kernel
theorem dX10_keepRow_47 : decode cX10_keepRow 47 = .ok (.iconst 0, 1) := by decide +kernel
theorem dX10_keepRow_48 : decode cX10_keepRow 48 = .ok (.iload_n 2, 1) := by decide +kernel
theorem dX10_keepRow_49 : decode cX10_keepRow 49 = .ok (.invokestatic 235, 3) := by decide +kernel
theorem dX10_keepRow_52 : decode cX10_keepRow 52 = .ok (.aload_n 0, 1) := by decide +kernel
theorem dX10_keepRow_53 : decode cX10_keepRow 53 = .ok (.getfield 122, 3) := by decide +kernel
theorem dX10_keepRow_56 : decode cX10_keepRow 56 = .ok (.iload_n 1, 1) := by decide +kernel
theorem dX10_keepRow_57 : decode cX10_keepRow 57 = .ok (.iconst 1, 1) := by decide +kernel
theorem dX10_keepRow_58 : decode cX10_keepRow 58 = .ok (.iload_n 2, 1) := by decide +kernel
theorem dX10_keepRow_59 : decode cX10_keepRow 59 = .ok (.invokestatic 235, 3) := by decide +kernel
theorem dX10_keepRow_62 : decode cX10_keepRow 62 = .ok (.iaload, 1) := by decide +kernel
theorem dX10_keepRow_63 : decode cX10_keepRow 63 = .ok (.iastore, 1) := by decide +kernel
theorem dX10_keepRow_64 : decode cX10_keepRow 64 = .ok (.iinc 2 1, 3) := by decide +kernel
theorem dX10_keepRow_67 : decode cX10_keepRow 67 = .ok (.goto (-54), 3) := by decide +kernel
theorem dX10_keepRow_70 : decode cX10_keepRow 70 = .ok (.aload_n 0, 1) := by decide +kernel
theorem dX10_keepRow_71 : decode cX10_keepRow 71 = .ok (.getfield 125, 3) := by decide +kernel
theorem dX10_keepRow_74 : decode cX10_keepRow 74 = .ok (.iload_n 1, 1) := by decide +kernel
theorem dX10_keepRow_75 : decode cX10_keepRow 75 = .ok (.dup2, 1) := by decide +kernel
theorem dX10_keepRow_76 : decode cX10_keepRow 76 = .ok (.iaload, 1) := by decide +kernel
theorem dX10_keepRow_77 : decode cX10_keepRow 77 = .ok (.iconst 1, 1) := by decide +kernel
theorem dX10_keepRow_78 : decode cX10_keepRow 78 = .ok (.isub, 1) := by decide +kernel
theorem dX10_keepRow_79 : decode cX10_keepRow 79 = .ok (.iastore, 1) := by decide +kernel
theorem dX10_keepRow_80 : decode cX10_keepRow 80 = .ok (.iconst 0, 1) := by decide +kernel
theorem dX10_keepRow_81 : decode cX10_keepRow 81 = .ok (.istore_n 2, 1) := by decide +kernel
theorem dX10_keepRow_82 : decode cX10_keepRow 82 = .ok (.iload_n 2, 1) := by decide +kernel
theorem dX10_keepRow_83 : decode cX10_keepRow 83 = .ok (.bipush 40, 2) := by decide +kernel
theorem dX10_keepRow_85 : decode cX10_keepRow 85 = .ok (.if_icmp .ge 98, 3) := by decide +kernel
theorem dX10_keepRow_88 : decode cX10_keepRow 88 = .ok (.iload_n 2, 1) := by decide +kernel
theorem dX10_keepRow_89 : decode cX10_keepRow 89 = .ok (.aload_n 0, 1) := by decide +kernel
theorem dX10_keepRow_90 : decode cX10_keepRow 90 = .ok (.getfield 53, 3) := by decide +kernel
theorem dX10_keepRow_93 : decode cX10_keepRow 93 = .ok (.iload_n 1, 1) := by decide +kernel
theorem dX10_keepRow_94 : decode cX10_keepRow 94 = .ok (.iaload, 1) := by decide +kernel
theorem dX10_keepRow_95 : decode cX10_keepRow 95 = .ok (.if_icmp .ge 7, 3) := by decide +kernel
theorem dX10_keepRow_98 : decode cX10_keepRow 98 = .ok (.iconst 1, 1) := by decide +kernel
theorem dX10_keepRow_99 : decode cX10_keepRow 99 = .ok (.goto 4, 3) := by decide +kernel
theorem dX10_keepRow_102 : decode cX10_keepRow 102 = .ok (.iconst 0, 1) := by decide +kernel
theorem dX10_keepRow_103 : decode cX10_keepRow 103 = .ok (.istore_n 3, 1) := by decide +kernel
theorem dX10_keepRow_104 : decode cX10_keepRow 104 = .ok (.aload_n 0, 1) := by decide +kernel
theorem dX10_keepRow_105 : decode cX10_keepRow 105 = .ok (.getfield 119, 3) := by decide +kernel
theorem dX10_keepRow_108 : decode cX10_keepRow 108 = .ok (.iload_n 1, 1) := by decide +kernel
theorem dX10_keepRow_109 : decode cX10_keepRow 109 = .ok (.aload_n 0, 1) := by decide +kernel
theorem dX10_keepRow_110 : decode cX10_keepRow 110 = .ok (.getfield 125, 3) := by decide +kernel
theorem dX10_keepRow_113 : decode cX10_keepRow 113 = .ok (.iload_n 1, 1) := by decide +kernel
theorem dX10_keepRow_114 : decode cX10_keepRow 114 = .ok (.iaload, 1) := by decide +kernel
theorem dX10_keepRow_115 : decode cX10_keepRow 115 = .ok (.iload_n 2, 1) := by decide +kernel
theorem dX10_keepRow_116 : decode cX10_keepRow 116 = .ok (.invokestatic 235, 3) := by decide +kernel
theorem dX10_keepRow_119 : decode cX10_keepRow 119 = .ok (.iload_n 3, 1) := by decide +kernel
theorem dX10_keepRow_120 : decode cX10_keepRow 120 = .ok (.ifCond .eq 18, 3) := by decide +kernel
theorem dX10_keepRow_123 : decode cX10_keepRow 123 = .ok (.aload_n 0, 1) := by decide +kernel
theorem dX10_keepRow_124 : decode cX10_keepRow 124 = .ok (.getfield 59, 3) := by decide +kernel
theorem dX10_keepRow_127 : decode cX10_keepRow 127 = .ok (.aload_n 0, 1) := by decide +kernel
theorem dX10_keepRow_128 : decode cX10_keepRow 128 = .ok (.iload_n 1, 1) := by decide +kernel
theorem dX10_keepRow_129 : decode cX10_keepRow 129 = .ok (.iconst 0, 1) := by decide +kernel
theorem dX10_keepRow_130 : decode cX10_keepRow 130 = .ok (.iload_n 2, 1) := by decide +kernel
theorem dX10_keepRow_131 : decode cX10_keepRow 131 = .ok (.invokevirtual 231, 3) := by decide +kernel
theorem dX10_keepRow_134 : decode cX10_keepRow 134 = .ok (.iaload, 1) := by decide +kernel
theorem dX10_keepRow_135 : decode cX10_keepRow 135 = .ok (.goto 5, 3) := by decide +kernel
theorem dX10_keepRow_138 : decode cX10_keepRow 138 = .ok (.bipush 32, 2) := by decide +kernel
theorem dX10_keepRow_140 : decode cX10_keepRow 140 = .ok (.iastore, 1) := by decide +kernel
theorem dX10_keepRow_141 : decode cX10_keepRow 141 = .ok (.aload_n 0, 1) := by decide +kernel
theorem dX10_keepRow_142 : decode cX10_keepRow 142 = .ok (.getfield 122, 3) := by decide +kernel
theorem dX10_keepRow_145 : decode cX10_keepRow 145 = .ok (.iload_n 1, 1) := by decide +kernel
theorem dX10_keepRow_146 : decode cX10_keepRow 146 = .ok (.aload_n 0, 1) := by decide +kernel
theorem dX10_keepRow_147 : decode cX10_keepRow 147 = .ok (.getfield 125, 3) := by decide +kernel
theorem dX10_keepRow_150 : decode cX10_keepRow 150 = .ok (.iload_n 1, 1) := by decide +kernel
theorem dX10_keepRow_151 : decode cX10_keepRow 151 = .ok (.iaload, 1) := by decide +kernel
theorem dX10_keepRow_152 : decode cX10_keepRow 152 = .ok (.iload_n 2, 1) := by decide +kernel
theorem dX10_keepRow_153 : decode cX10_keepRow 153 = .ok (.invokestatic 235, 3) := by decide +kernel
theorem dX10_keepRow_156 : decode cX10_keepRow 156 = .ok (.iload_n 3, 1) := by decide +kernel
theorem dX10_keepRow_157 : decode cX10_keepRow 157 = .ok (.ifCond .eq 18, 3) := by decide +kernel
theorem dX10_keepRow_160 : decode cX10_keepRow 160 = .ok (.aload_n 0, 1) := by decide +kernel
theorem dX10_keepRow_161 : decode cX10_keepRow 161 = .ok (.getfield 62, 3) := by decide +kernel
theorem dX10_keepRow_164 : decode cX10_keepRow 164 = .ok (.aload_n 0, 1) := by decide +kernel
theorem dX10_keepRow_165 : decode cX10_keepRow 165 = .ok (.iload_n 1, 1) := by decide +kernel
theorem dX10_keepRow_166 : decode cX10_keepRow 166 = .ok (.iconst 0, 1) := by decide +kernel
theorem dX10_keepRow_167 : decode cX10_keepRow 167 = .ok (.iload_n 2, 1) := by decide +kernel
theorem dX10_keepRow_168 : decode cX10_keepRow 168 = .ok (.invokevirtual 231, 3) := by decide +kernel
theorem dX10_keepRow_171 : decode cX10_keepRow 171 = .ok (.iaload, 1) := by decide +kernel
theorem dX10_keepRow_172 : decode cX10_keepRow 172 = .ok (.goto 4, 3) := by decide +kernel
theorem dX10_keepRow_175 : decode cX10_keepRow 175 = .ok (.iconst 0, 1) := by decide +kernel
theorem dX10_keepRow_176 : decode cX10_keepRow 176 = .ok (.iastore, 1) := by decide +kernel
theorem dX10_keepRow_177 : decode cX10_keepRow 177 = .ok (.iinc 2 1, 3) := by decide +kernel
theorem dX10_keepRow_180 : decode cX10_keepRow 180 = .ok (.goto (-98), 3) := by decide +kernel
theorem dX10_keepRow_183 : decode cX10_keepRow 183 = .ok (.aload_n 0, 1) := by decide +kernel
theorem dX10_keepRow_184 : decode cX10_keepRow 184 = .ok (.getfield 125, 3) := by decide +kernel
theorem dX10_keepRow_187 : decode cX10_keepRow 187 = .ok (.iload_n 1, 1) := by decide +kernel
theorem dX10_keepRow_188 : decode cX10_keepRow 188 = .ok (.dup2, 1) := by decide +kernel
theorem dX10_keepRow_189 : decode cX10_keepRow 189 = .ok (.iaload, 1) := by decide +kernel
theorem dX10_keepRow_190 : decode cX10_keepRow 190 = .ok (.iconst 1, 1) := by decide +kernel
theorem dX10_keepRow_191 : decode cX10_keepRow 191 = .ok (.iadd, 1) := by decide +kernel
theorem dX10_keepRow_192 : decode cX10_keepRow 192 = .ok (.iastore, 1) := by decide +kernel
theorem dX10_keepRow_193 : decode cX10_keepRow 193 = .ok (.return_, 1) := by decide +kernel
theorem dX10_scrollUp_0 : decode cX10_scrollUp 0 = .ok (.iconst 0, 1) := by decide +kernel
theorem dX10_scrollUp_1 : decode cX10_scrollUp 1 = .ok (.istore 6, 2) := by decide +kernel
theorem dX10_scrollUp_3 : decode cX10_scrollUp 3 = .ok (.iload 6, 2) := by decide +kernel
theorem dX10_scrollUp_5 : decode cX10_scrollUp 5 = .ok (.iload 4, 2) := by decide +kernel
theorem dX10_scrollUp_7 : decode cX10_scrollUp 7 = .ok (.if_icmp .ge 72, 3) := by decide +kernel
theorem dX10_scrollUp_10 : decode cX10_scrollUp 10 = .ok (.iload 6, 2) := by decide +kernel
theorem dX10_scrollUp_12 : decode cX10_scrollUp 12 = .ok (.iload_n 3, 1) := by decide +kernel
theorem dX10_scrollUp_13 : decode cX10_scrollUp 13 = .ok (.iload_n 2, 1) := by decide +kernel
theorem dX10_scrollUp_14 : decode cX10_scrollUp 14 = .ok (.isub, 1) := by decide +kernel
theorem dX10_scrollUp_15 : decode cX10_scrollUp 15 = .ok (.if_icmp .gt 64, 3) := by decide +kernel
theorem dX10_scrollUp_18 : decode cX10_scrollUp 18 = .ok (.iload 5, 2) := by decide +kernel
theorem dX10_scrollUp_20 : decode cX10_scrollUp 20 = .ok (.ifCond .eq 21, 3) := by decide +kernel
theorem dX10_scrollUp_23 : decode cX10_scrollUp 23 = .ok (.iload_n 2, 1) := by decide +kernel
theorem dX10_scrollUp_24 : decode cX10_scrollUp 24 = .ok (.ifCond .ne 17, 3) := by decide +kernel
theorem dX10_scrollUp_27 : decode cX10_scrollUp 27 = .ok (.aload_n 0, 1) := by decide +kernel
theorem dX10_scrollUp_28 : decode cX10_scrollUp 28 = .ok (.getfield 65, 3) := by decide +kernel
theorem dX10_scrollUp_31 : decode cX10_scrollUp 31 = .ok (.iload_n 1, 1) := by decide +kernel
theorem dX10_scrollUp_32 : decode cX10_scrollUp 32 = .ok (.baload, 1) := by decide +kernel
theorem dX10_scrollUp_33 : decode cX10_scrollUp 33 = .ok (.ifCond .ne 8, 3) := by decide +kernel
theorem dX10_scrollUp_36 : decode cX10_scrollUp 36 = .ok (.aload_n 0, 1) := by decide +kernel
theorem dX10_scrollUp_37 : decode cX10_scrollUp 37 = .ok (.iload_n 1, 1) := by decide +kernel
theorem dX10_scrollUp_38 : decode cX10_scrollUp 38 = .ok (.invokevirtual 238, 3) := by decide +kernel
theorem dX10_scrollUp_41 : decode cX10_scrollUp 41 = .ok (.iload_n 2, 1) := by decide +kernel
theorem dX10_scrollUp_42 : decode cX10_scrollUp 42 = .ok (.istore 7, 2) := by decide +kernel
theorem dX10_scrollUp_44 : decode cX10_scrollUp 44 = .ok (.iload 7, 2) := by decide +kernel
theorem dX10_scrollUp_46 : decode cX10_scrollUp 46 = .ok (.iload_n 3, 1) := by decide +kernel
theorem dX10_scrollUp_47 : decode cX10_scrollUp 47 = .ok (.if_icmp .ge 20, 3) := by decide +kernel
theorem dX10_scrollUp_50 : decode cX10_scrollUp 50 = .ok (.aload_n 0, 1) := by decide +kernel
theorem dX10_scrollUp_51 : decode cX10_scrollUp 51 = .ok (.iload_n 1, 1) := by decide +kernel
theorem dX10_scrollUp_52 : decode cX10_scrollUp 52 = .ok (.iload 7, 2) := by decide +kernel
theorem dX10_scrollUp_54 : decode cX10_scrollUp 54 = .ok (.iconst 1, 1) := by decide +kernel
theorem dX10_scrollUp_55 : decode cX10_scrollUp 55 = .ok (.iadd, 1) := by decide +kernel
theorem dX10_scrollUp_56 : decode cX10_scrollUp 56 = .ok (.iload 7, 2) := by decide +kernel
theorem dX10_scrollUp_58 : decode cX10_scrollUp 58 = .ok (.invokevirtual 241, 3) := by decide +kernel
theorem dX10_scrollUp_61 : decode cX10_scrollUp 61 = .ok (.iinc 7 1, 3) := by decide +kernel
theorem dX10_scrollUp_64 : decode cX10_scrollUp 64 = .ok (.goto (-20), 3) := by decide +kernel
theorem dX10_scrollUp_67 : decode cX10_scrollUp 67 = .ok (.aload_n 0, 1) := by decide +kernel
theorem dX10_scrollUp_68 : decode cX10_scrollUp 68 = .ok (.iload_n 1, 1) := by decide +kernel
theorem dX10_scrollUp_69 : decode cX10_scrollUp 69 = .ok (.iload_n 3, 1) := by decide +kernel
theorem dX10_scrollUp_70 : decode cX10_scrollUp 70 = .ok (.invokevirtual 244, 3) := by decide +kernel
theorem dX10_scrollUp_73 : decode cX10_scrollUp 73 = .ok (.iinc 6 1, 3) := by decide +kernel
theorem dX10_scrollUp_76 : decode cX10_scrollUp 76 = .ok (.goto (-73), 3) := by decide +kernel
theorem dX10_scrollUp_79 : decode cX10_scrollUp 79 = .ok (.return_, 1) := by decide +kernel
theorem dX10_scrollDown_0 : decode cX10_scrollDown 0 = .ok (.iconst 0, 1) := by decide +kernel
theorem dX10_scrollDown_1 : decode cX10_scrollDown 1 = .ok (.istore 5, 2) := by decide +kernel
theorem dX10_scrollDown_3 : decode cX10_scrollDown 3 = .ok (.iload 5, 2) := by decide +kernel
theorem dX10_scrollDown_5 : decode cX10_scrollDown 5 = .ok (.iload 4, 2) := by decide +kernel
theorem dX10_scrollDown_7 : decode cX10_scrollDown 7 = .ok (.if_icmp .ge 49, 3) := by decide +kernel
theorem dX10_scrollDown_10 : decode cX10_scrollDown 10 = .ok (.iload 5, 2) := by decide +kernel
theorem dX10_scrollDown_12 : decode cX10_scrollDown 12 = .ok (.iload_n 3, 1) := by decide +kernel
theorem dX10_scrollDown_13 : decode cX10_scrollDown 13 = .ok (.iload_n 2, 1) := by decide +kernel
theorem dX10_scrollDown_14 : decode cX10_scrollDown 14 = .ok (.isub, 1) := by decide +kernel
theorem dX10_scrollDown_15 : decode cX10_scrollDown 15 = .ok (.if_icmp .gt 41, 3) := by decide +kernel
theorem dX10_scrollDown_18 : decode cX10_scrollDown 18 = .ok (.iload_n 3, 1) := by decide +kernel
theorem dX10_scrollDown_19 : decode cX10_scrollDown 19 = .ok (.istore 6, 2) := by decide +kernel
theorem dX10_scrollDown_21 : decode cX10_scrollDown 21 = .ok (.iload 6, 2) := by decide +kernel
theorem dX10_scrollDown_23 : decode cX10_scrollDown 23 = .ok (.iload_n 2, 1) := by decide +kernel
theorem dX10_scrollDown_24 : decode cX10_scrollDown 24 = .ok (.if_icmp .le 20, 3) := by decide +kernel
theorem dX10_scrollDown_27 : decode cX10_scrollDown 27 = .ok (.aload_n 0, 1) := by decide +kernel
theorem dX10_scrollDown_28 : decode cX10_scrollDown 28 = .ok (.iload_n 1, 1) := by decide +kernel
theorem dX10_scrollDown_29 : decode cX10_scrollDown 29 = .ok (.iload 6, 2) := by decide +kernel
theorem dX10_scrollDown_31 : decode cX10_scrollDown 31 = .ok (.iconst 1, 1) := by decide +kernel
theorem dX10_scrollDown_32 : decode cX10_scrollDown 32 = .ok (.isub, 1) := by decide +kernel
theorem dX10_scrollDown_33 : decode cX10_scrollDown 33 = .ok (.iload 6, 2) := by decide +kernel
theorem dX10_scrollDown_35 : decode cX10_scrollDown 35 = .ok (.invokevirtual 241, 3) := by decide +kernel
theorem dX10_scrollDown_38 : decode cX10_scrollDown 38 = .ok (.iinc 6 (-1), 3) := by decide +kernel
theorem dX10_scrollDown_41 : decode cX10_scrollDown 41 = .ok (.goto (-20), 3) := by decide +kernel
theorem dX10_scrollDown_44 : decode cX10_scrollDown 44 = .ok (.aload_n 0, 1) := by decide +kernel
theorem dX10_scrollDown_45 : decode cX10_scrollDown 45 = .ok (.iload_n 1, 1) := by decide +kernel
theorem dX10_scrollDown_46 : decode cX10_scrollDown 46 = .ok (.iload_n 2, 1) := by decide +kernel
theorem dX10_scrollDown_47 : decode cX10_scrollDown 47 = .ok (.invokevirtual 244, 3) := by decide +kernel
theorem dX10_scrollDown_50 : decode cX10_scrollDown 50 = .ok (.iinc 5 1, 3) := by decide +kernel
theorem dX10_scrollDown_53 : decode cX10_scrollDown 53 = .ok (.goto (-50), 3) := by decide +kernel
theorem dX10_scrollDown_56 : decode cX10_scrollDown 56 = .ok (.return_, 1) := by decide +kernel
theorem dX10_down_0 : decode cX10_down 0 = .ok (.aload_n 0, 1) := by decide +kernel
theorem dX10_down_1 : decode cX10_down 1 = .ok (.getfield 68, 3) := by decide +kernel
theorem dX10_down_4 : decode cX10_down 4 = .ok (.iload_n 1, 1) := by decide +kernel
theorem dX10_down_5 : decode cX10_down 5 = .ok (.iaload, 1) := by decide +kernel
theorem dX10_down_6 : decode cX10_down 6 = .ok (.aload_n 0, 1) := by decide +kernel
theorem dX10_down_7 : decode cX10_down 7 = .ok (.getfield 89, 3) := by decide +kernel
theorem dX10_down_10 : decode cX10_down 10 = .ok (.iload_n 1, 1) := by decide +kernel
theorem dX10_down_11 : decode cX10_down 11 = .ok (.iaload, 1) := by decide +kernel
theorem dX10_down_12 : decode cX10_down 12 = .ok (.if_icmp .ne 25, 3) := by decide +kernel
theorem dX10_down_15 : decode cX10_down 15 = .ok (.aload_n 0, 1) := by decide +kernel
theorem dX10_down_16 : decode cX10_down 16 = .ok (.iload_n 1, 1) := by decide +kernel
theorem dX10_down_17 : decode cX10_down 17 = .ok (.aload_n 0, 1) := by decide +kernel
theorem dX10_down_18 : decode cX10_down 18 = .ok (.getfield 86, 3) := by decide +kernel
theorem dX10_down_21 : decode cX10_down 21 = .ok (.iload_n 1, 1) := by decide +kernel
theorem dX10_down_22 : decode cX10_down 22 = .ok (.iaload, 1) := by decide +kernel
theorem dX10_down_23 : decode cX10_down 23 = .ok (.aload_n 0, 1) := by decide +kernel
theorem dX10_down_24 : decode cX10_down 24 = .ok (.getfield 89, 3) := by decide +kernel
theorem dX10_down_27 : decode cX10_down 27 = .ok (.iload_n 1, 1) := by decide +kernel
theorem dX10_down_28 : decode cX10_down 28 = .ok (.iaload, 1) := by decide +kernel
theorem dX10_down_29 : decode cX10_down 29 = .ok (.iconst 1, 1) := by decide +kernel
theorem dX10_down_30 : decode cX10_down 30 = .ok (.iconst 1, 1) := by decide +kernel
theorem dX10_down_31 : decode cX10_down 31 = .ok (.invokevirtual 247, 3) := by decide +kernel
theorem dX10_down_34 : decode cX10_down 34 = .ok (.goto 30, 3) := by decide +kernel
theorem dX10_down_37 : decode cX10_down 37 = .ok (.aload_n 0, 1) := by decide +kernel
theorem dX10_down_38 : decode cX10_down 38 = .ok (.getfield 68, 3) := by decide +kernel
theorem dX10_down_41 : decode cX10_down 41 = .ok (.iload_n 1, 1) := by decide +kernel
theorem dX10_down_42 : decode cX10_down 42 = .ok (.iaload, 1) := by decide +kernel
theorem dX10_down_43 : decode cX10_down 43 = .ok (.aload_n 0, 1) := by decide +kernel
theorem dX10_down_44 : decode cX10_down 44 = .ok (.getfield 56, 3) := by decide +kernel
theorem dX10_down_47 : decode cX10_down 47 = .ok (.iload_n 1, 1) := by decide +kernel
theorem dX10_down_48 : decode cX10_down 48 = .ok (.iaload, 1) := by decide +kernel
theorem dX10_down_49 : decode cX10_down 49 = .ok (.iconst 1, 1) := by decide +kernel
theorem dX10_down_50 : decode cX10_down 50 = .ok (.isub, 1) := by decide +kernel
theorem dX10_down_51 : decode cX10_down 51 = .ok (.if_icmp .ge 13, 3) := by decide +kernel
theorem dX10_down_54 : decode cX10_down 54 = .ok (.aload_n 0, 1) := by decide +kernel
theorem dX10_down_55 : decode cX10_down 55 = .ok (.getfield 68, 3) := by decide +kernel
theorem dX10_down_58 : decode cX10_down 58 = .ok (.iload_n 1, 1) := by decide +kernel
theorem dX10_down_59 : decode cX10_down 59 = .ok (.dup2, 1) := by decide +kernel
theorem dX10_down_60 : decode cX10_down 60 = .ok (.iaload, 1) := by decide +kernel
theorem dX10_down_61 : decode cX10_down 61 = .ok (.iconst 1, 1) := by decide +kernel
theorem dX10_down_62 : decode cX10_down 62 = .ok (.iadd, 1) := by decide +kernel
theorem dX10_down_63 : decode cX10_down 63 = .ok (.iastore, 1) := by decide +kernel
theorem dX10_down_64 : decode cX10_down 64 = .ok (.aload_n 0, 1) := by decide +kernel
theorem dX10_down_65 : decode cX10_down 65 = .ok (.getfield 92, 3) := by decide +kernel
theorem dX10_down_68 : decode cX10_down 68 = .ok (.iload_n 1, 1) := by decide +kernel
theorem dX10_down_69 : decode cX10_down 69 = .ok (.iconst 0, 1) := by decide +kernel
theorem dX10_down_70 : decode cX10_down 70 = .ok (.bastore, 1) := by decide +kernel
theorem dX10_down_71 : decode cX10_down 71 = .ok (.return_, 1) := by decide +kernel
theorem dX10_up_0 : decode cX10_up 0 = .ok (.aload_n 0, 1) := by decide +kernel
theorem dX10_up_1 : decode cX10_up 1 = .ok (.getfield 68, 3) := by decide +kernel
theorem dX10_up_4 : decode cX10_up 4 = .ok (.iload_n 1, 1) := by decide +kernel
theorem dX10_up_5 : decode cX10_up 5 = .ok (.iaload, 1) := by decide +kernel
theorem dX10_up_6 : decode cX10_up 6 = .ok (.aload_n 0, 1) := by decide +kernel
theorem dX10_up_7 : decode cX10_up 7 = .ok (.getfield 86, 3) := by decide +kernel
theorem dX10_up_10 : decode cX10_up 10 = .ok (.iload_n 1, 1) := by decide +kernel
theorem dX10_up_11 : decode cX10_up 11 = .ok (.iaload, 1) := by decide +kernel
theorem dX10_up_12 : decode cX10_up 12 = .ok (.if_icmp .ne 24, 3) := by decide +kernel
theorem dX10_up_15 : decode cX10_up 15 = .ok (.aload_n 0, 1) := by decide +kernel
theorem dX10_up_16 : decode cX10_up 16 = .ok (.iload_n 1, 1) := by decide +kernel
theorem dX10_up_17 : decode cX10_up 17 = .ok (.aload_n 0, 1) := by decide +kernel
theorem dX10_up_18 : decode cX10_up 18 = .ok (.getfield 86, 3) := by decide +kernel
theorem dX10_up_21 : decode cX10_up 21 = .ok (.iload_n 1, 1) := by decide +kernel
theorem dX10_up_22 : decode cX10_up 22 = .ok (.iaload, 1) := by decide +kernel
theorem dX10_up_23 : decode cX10_up 23 = .ok (.aload_n 0, 1) := by decide +kernel
theorem dX10_up_24 : decode cX10_up 24 = .ok (.getfield 89, 3) := by decide +kernel
theorem dX10_up_27 : decode cX10_up 27 = .ok (.iload_n 1, 1) := by decide +kernel
theorem dX10_up_28 : decode cX10_up 28 = .ok (.iaload, 1) := by decide +kernel
theorem dX10_up_29 : decode cX10_up 29 = .ok (.iconst 1, 1) := by decide +kernel
theorem dX10_up_30 : decode cX10_up 30 = .ok (.invokevirtual 251, 3) := by decide +kernel
theorem dX10_up_33 : decode cX10_up 33 = .ok (.goto 22, 3) := by decide +kernel
theorem dX10_up_36 : decode cX10_up 36 = .ok (.aload_n 0, 1) := by decide +kernel
theorem dX10_up_37 : decode cX10_up 37 = .ok (.getfield 68, 3) := by decide +kernel
theorem dX10_up_40 : decode cX10_up 40 = .ok (.iload_n 1, 1) := by decide +kernel
theorem dX10_up_41 : decode cX10_up 41 = .ok (.iaload, 1) := by decide +kernel
theorem dX10_up_42 : decode cX10_up 42 = .ok (.ifCond .le 13, 3) := by decide +kernel
theorem dX10_up_45 : decode cX10_up 45 = .ok (.aload_n 0, 1) := by decide +kernel
theorem dX10_up_46 : decode cX10_up 46 = .ok (.getfield 68, 3) := by decide +kernel
theorem dX10_up_49 : decode cX10_up 49 = .ok (.iload_n 1, 1) := by decide +kernel
theorem dX10_up_50 : decode cX10_up 50 = .ok (.dup2, 1) := by decide +kernel
theorem dX10_up_51 : decode cX10_up 51 = .ok (.iaload, 1) := by decide +kernel
theorem dX10_up_52 : decode cX10_up 52 = .ok (.iconst 1, 1) := by decide +kernel
theorem dX10_up_53 : decode cX10_up 53 = .ok (.isub, 1) := by decide +kernel
theorem dX10_up_54 : decode cX10_up 54 = .ok (.iastore, 1) := by decide +kernel
theorem dX10_up_55 : decode cX10_up 55 = .ok (.aload_n 0, 1) := by decide +kernel
theorem dX10_up_56 : decode cX10_up 56 = .ok (.getfield 92, 3) := by decide +kernel
theorem dX10_up_59 : decode cX10_up 59 = .ok (.iload_n 1, 1) := by decide +kernel
theorem dX10_up_60 : decode cX10_up 60 = .ok (.iconst 0, 1) := by decide +kernel
theorem dX10_up_61 : decode cX10_up 61 = .ok (.bastore, 1) := by decide +kernel
theorem dX10_up_62 : decode cX10_up 62 = .ok (.return_, 1) := by decide +kernel
theorem dX10_push_0 : decode cX10_push 0 = .ok (.aload_n 0, 1) := by decide +kernel
theorem dX10_push_1 : decode cX10_push 1 = .ok (.getfield 53, 3) := by decide +kernel
theorem dX10_push_4 : decode cX10_push 4 = .ok (.iload_n 1, 1) := by decide +kernel
theorem dX10_push_5 : decode cX10_push 5 = .ok (.iaload, 1) := by decide +kernel
theorem dX10_push_6 : decode cX10_push 6 = .ok (.istore 5, 2) := by decide +kernel
theorem dX10_push_8 : decode cX10_push 8 = .ok (.iload 4, 2) := by decide +kernel
theorem dX10_push_10 : decode cX10_push 10 = .ok (.ifCond .le 110, 3) := by decide +kernel
theorem dX10_push_13 : decode cX10_push 13 = .ok (.iload 5, 2) := by decide +kernel
theorem dX10_push_15 : decode cX10_push 15 = .ok (.iconst 1, 1) := by decide +kernel
theorem dX10_push_16 : decode cX10_push 16 = .ok (.isub, 1) := by decide +kernel
theorem dX10_push_17 : decode cX10_push 17 = .ok (.istore 6, 2) := by decide +kernel
theorem dX10_push_19 : decode cX10_push 19 = .ok (.iload 6, 2) := by decide +kernel
theorem dX10_push_21 : decode cX10_push 21 = .ok (.iload_n 3, 1) := by decide +kernel
theorem dX10_push_22 : decode cX10_push 22 = .ok (.if_icmp .lt 97, 3) := by decide +kernel
theorem dX10_push_25 : decode cX10_push 25 = .ok (.iload 6, 2) := by decide +kernel
theorem dX10_push_27 : decode cX10_push 27 = .ok (.iload 4, 2) := by decide +kernel
theorem dX10_push_29 : decode cX10_push 29 = .ok (.isub, 1) := by decide +kernel
theorem dX10_push_30 : decode cX10_push 30 = .ok (.iload_n 3, 1) := by decide +kernel
theorem dX10_push_31 : decode cX10_push 31 = .ok (.if_icmp .lt 64, 3) := by decide +kernel
theorem dX10_push_34 : decode cX10_push 34 = .ok (.aload_n 0, 1) := by decide +kernel
theorem dX10_push_35 : decode cX10_push 35 = .ok (.getfield 59, 3) := by decide +kernel
theorem dX10_push_38 : decode cX10_push 38 = .ok (.aload_n 0, 1) := by decide +kernel
theorem dX10_push_39 : decode cX10_push 39 = .ok (.iload_n 1, 1) := by decide +kernel
theorem dX10_push_40 : decode cX10_push 40 = .ok (.iload_n 2, 1) := by decide +kernel
theorem dX10_push_41 : decode cX10_push 41 = .ok (.iload 6, 2) := by decide +kernel
theorem dX10_push_43 : decode cX10_push 43 = .ok (.invokevirtual 231, 3) := by decide +kernel
theorem dX10_push_46 : decode cX10_push 46 = .ok (.aload_n 0, 1) := by decide +kernel
theorem dX10_push_47 : decode cX10_push 47 = .ok (.getfield 59, 3) := by decide +kernel
theorem dX10_push_50 : decode cX10_push 50 = .ok (.aload_n 0, 1) := by decide +kernel
theorem dX10_push_51 : decode cX10_push 51 = .ok (.iload_n 1, 1) := by decide +kernel
theorem dX10_push_52 : decode cX10_push 52 = .ok (.iload_n 2, 1) := by decide +kernel
theorem dX10_push_53 : decode cX10_push 53 = .ok (.iload 6, 2) := by decide +kernel
theorem dX10_push_55 : decode cX10_push 55 = .ok (.iload 4, 2) := by decide +kernel
theorem dX10_push_57 : decode cX10_push 57 = .ok (.isub, 1) := by decide +kernel
theorem dX10_push_58 : decode cX10_push 58 = .ok (.invokevirtual 231, 3) := by decide +kernel
theorem dX10_push_61 : decode cX10_push 61 = .ok (.iaload, 1) := by decide +kernel
theorem dX10_push_62 : decode cX10_push 62 = .ok (.iastore, 1) := by decide +kernel
theorem dX10_push_63 : decode cX10_push 63 = .ok (.aload_n 0, 1) := by decide +kernel
theorem dX10_push_64 : decode cX10_push 64 = .ok (.getfield 62, 3) := by decide +kernel
theorem dX10_push_67 : decode cX10_push 67 = .ok (.aload_n 0, 1) := by decide +kernel
theorem dX10_push_68 : decode cX10_push 68 = .ok (.iload_n 1, 1) := by decide +kernel
theorem dX10_push_69 : decode cX10_push 69 = .ok (.iload_n 2, 1) := by decide +kernel
theorem dX10_push_70 : decode cX10_push 70 = .ok (.iload 6, 2) := by decide +kernel
theorem dX10_push_72 : decode cX10_push 72 = .ok (.invokevirtual 231, 3) := by decide +kernel
theorem dX10_push_75 : decode cX10_push 75 = .ok (.aload_n 0, 1) := by decide +kernel
theorem dX10_push_76 : decode cX10_push 76 = .ok (.getfield 62, 3) := by decide +kernel
theorem dX10_push_79 : decode cX10_push 79 = .ok (.aload_n 0, 1) := by decide +kernel
theorem dX10_push_80 : decode cX10_push 80 = .ok (.iload_n 1, 1) := by decide +kernel
theorem dX10_push_81 : decode cX10_push 81 = .ok (.iload_n 2, 1) := by decide +kernel
theorem dX10_push_82 : decode cX10_push 82 = .ok (.iload 6, 2) := by decide +kernel
theorem dX10_push_84 : decode cX10_push 84 = .ok (.iload 4, 2) := by decide +kernel
theorem dX10_push_86 : decode cX10_push 86 = .ok (.isub, 1) := by decide +kernel
theorem dX10_push_87 : decode cX10_push 87 = .ok (.invokevirtual 231, 3) := by decide +kernel
theorem dX10_push_90 : decode cX10_push 90 = .ok (.iaload, 1) := by decide +kernel
theorem dX10_push_91 : decode cX10_push 91 = .ok (.iastore, 1) := by decide +kernel
theorem dX10_push_92 : decode cX10_push 92 = .ok (.goto 21, 3) := by decide +kernel
theorem dX10_push_95 : decode cX10_push 95 = .ok (.aload_n 0, 1) := by decide +kernel
theorem dX10_push_96 : decode cX10_push 96 = .ok (.aload_n 0, 1) := by decide +kernel
theorem dX10_push_97 : decode cX10_push 97 = .ok (.iload_n 1, 1) := by decide +kernel
theorem dX10_push_98 : decode cX10_push 98 = .ok (.iload_n 2, 1) := by decide +kernel
theorem dX10_push_99 : decode cX10_push 99 = .ok (.iload 6, 2) := by decide +kernel
theorem dX10_push_101 : decode cX10_push 101 = .ok (.invokevirtual 231, 3) := by decide +kernel
theorem dX10_push_104 : decode cX10_push 104 = .ok (.aload_n 0, 1) := by decide +kernel
theorem dX10_push_105 : decode cX10_push 105 = .ok (.getfield 74, 3) := by decide +kernel
theorem dX10_push_108 : decode cX10_push 108 = .ok (.iload_n 1, 1) := by decide +kernel
theorem dX10_push_109 : decode cX10_push 109 = .ok (.iaload, 1) := by decide +kernel
theorem dX10_push_110 : decode cX10_push 110 = .ok (.invokevirtual 184, 3) := by decide +kernel
theorem dX10_push_113 : decode cX10_push 113 = .ok (.iinc 6 (-1), 3) := by decide +kernel
theorem dX10_push_116 : decode cX10_push 116 = .ok (.goto (-97), 3) := by decide +kernel
theorem dX10_push_119 : decode cX10_push 119 = .ok (.return_, 1) := by decide +kernel
theorem dX10_push_120 : decode cX10_push 120 = .ok (.iload_n 3, 1) := by decide +kernel
theorem dX10_push_121 : decode cX10_push 121 = .ok (.istore 6, 2) := by decide +kernel
theorem dX10_push_123 : decode cX10_push 123 = .ok (.iload 6, 2) := by decide +kernel
theorem dX10_push_125 : decode cX10_push 125 = .ok (.iload 5, 2) := by decide +kernel
theorem dX10_push_127 : decode cX10_push 127 = .ok (.if_icmp .ge 98, 3) := by decide +kernel
theorem dX10_push_130 : decode cX10_push 130 = .ok (.iload 6, 2) := by decide +kernel
theorem dX10_push_132 : decode cX10_push 132 = .ok (.iload 4, 2) := by decide +kernel
theorem dX10_push_134 : decode cX10_push 134 = .ok (.isub, 1) := by decide +kernel
theorem dX10_push_135 : decode cX10_push 135 = .ok (.iload 5, 2) := by decide +kernel
theorem dX10_push_137 : decode cX10_push 137 = .ok (.if_icmp .ge 64, 3) := by decide +kernel
theorem dX10_push_140 : decode cX10_push 140 = .ok (.aload_n 0, 1) := by decide +kernel
theorem dX10_push_141 : decode cX10_push 141 = .ok (.getfield 59, 3) := by decide +kernel
theorem dX10_push_144 : decode cX10_push 144 = .ok (.aload_n 0, 1) := by decide +kernel
theorem dX10_push_145 : decode cX10_push 145 = .ok (.iload_n 1, 1) := by decide +kernel
theorem dX10_push_146 : decode cX10_push 146 = .ok (.iload_n 2, 1) := by decide +kernel
theorem dX10_push_147 : decode cX10_push 147 = .ok (.iload 6, 2) := by decide +kernel
theorem dX10_push_149 : decode cX10_push 149 = .ok (.invokevirtual 231, 3) := by decide +kernel
theorem dX10_push_152 : decode cX10_push 152 = .ok (.aload_n 0, 1) := by decide +kernel
theorem dX10_push_153 : decode cX10_push 153 = .ok (.getfield 59, 3) := by decide +kernel
theorem dX10_push_156 : decode cX10_push 156 = .ok (.aload_n 0, 1) := by decide +kernel
theorem dX10_push_157 : decode cX10_push 157 = .ok (.iload_n 1, 1) := by decide +kernel
theorem dX10_push_158 : decode cX10_push 158 = .ok (.iload_n 2, 1) := by decide +kernel
theorem dX10_push_159 : decode cX10_push 159 = .ok (.iload 6, 2) := by decide +kernel
theorem dX10_push_161 : decode cX10_push 161 = .ok (.iload 4, 2) := by decide +kernel
theorem dX10_push_163 : decode cX10_push 163 = .ok (.isub, 1) := by decide +kernel
theorem dX10_push_164 : decode cX10_push 164 = .ok (.invokevirtual 231, 3) := by decide +kernel
theorem dX10_push_167 : decode cX10_push 167 = .ok (.iaload, 1) := by decide +kernel
theorem dX10_push_168 : decode cX10_push 168 = .ok (.iastore, 1) := by decide +kernel
theorem dX10_push_169 : decode cX10_push 169 = .ok (.aload_n 0, 1) := by decide +kernel
theorem dX10_push_170 : decode cX10_push 170 = .ok (.getfield 62, 3) := by decide +kernel
theorem dX10_push_173 : decode cX10_push 173 = .ok (.aload_n 0, 1) := by decide +kernel
theorem dX10_push_174 : decode cX10_push 174 = .ok (.iload_n 1, 1) := by decide +kernel
theorem dX10_push_175 : decode cX10_push 175 = .ok (.iload_n 2, 1) := by decide +kernel
theorem dX10_push_176 : decode cX10_push 176 = .ok (.iload 6, 2) := by decide +kernel
theorem dX10_push_178 : decode cX10_push 178 = .ok (.invokevirtual 231, 3) := by decide +kernel
theorem dX10_push_181 : decode cX10_push 181 = .ok (.aload_n 0, 1) := by decide +kernel
theorem dX10_push_182 : decode cX10_push 182 = .ok (.getfield 62, 3) := by decide +kernel
theorem dX10_push_185 : decode cX10_push 185 = .ok (.aload_n 0, 1) := by decide +kernel
theorem dX10_push_186 : decode cX10_push 186 = .ok (.iload_n 1, 1) := by decide +kernel
theorem dX10_push_187 : decode cX10_push 187 = .ok (.iload_n 2, 1) := by decide +kernel
theorem dX10_push_188 : decode cX10_push 188 = .ok (.iload 6, 2) := by decide +kernel
theorem dX10_push_190 : decode cX10_push 190 = .ok (.iload 4, 2) := by decide +kernel
theorem dX10_push_192 : decode cX10_push 192 = .ok (.isub, 1) := by decide +kernel
theorem dX10_push_193 : decode cX10_push 193 = .ok (.invokevirtual 231, 3) := by decide +kernel
theorem dX10_push_196 : decode cX10_push 196 = .ok (.iaload, 1) := by decide +kernel
theorem dX10_push_197 : decode cX10_push 197 = .ok (.iastore, 1) := by decide +kernel
theorem dX10_push_198 : decode cX10_push 198 = .ok (.goto 21, 3) := by decide +kernel
theorem dX10_push_201 : decode cX10_push 201 = .ok (.aload_n 0, 1) := by decide +kernel
theorem dX10_push_202 : decode cX10_push 202 = .ok (.aload_n 0, 1) := by decide +kernel
theorem dX10_push_203 : decode cX10_push 203 = .ok (.iload_n 1, 1) := by decide +kernel
theorem dX10_push_204 : decode cX10_push 204 = .ok (.iload_n 2, 1) := by decide +kernel
theorem dX10_push_205 : decode cX10_push 205 = .ok (.iload 6, 2) := by decide +kernel
theorem dX10_push_207 : decode cX10_push 207 = .ok (.invokevirtual 231, 3) := by decide +kernel
theorem dX10_push_210 : decode cX10_push 210 = .ok (.aload_n 0, 1) := by decide +kernel
theorem dX10_push_211 : decode cX10_push 211 = .ok (.getfield 74, 3) := by decide +kernel
theorem dX10_push_214 : decode cX10_push 214 = .ok (.iload_n 1, 1) := by decide +kernel
theorem dX10_push_215 : decode cX10_push 215 = .ok (.iaload, 1) := by decide +kernel
theorem dX10_push_216 : decode cX10_push 216 = .ok (.invokevirtual 184, 3) := by decide +kernel
theorem dX10_push_219 : decode cX10_push 219 = .ok (.iinc 6 1, 3) := by decide +kernel
theorem dX10_push_222 : decode cX10_push 222 = .ok (.goto (-99), 3) := by decide +kernel
theorem dX10_push_225 : decode cX10_push 225 = .ok (.return_, 1) := by decide +kernel
theorem dX10_write_0 : decode cX10_write 0 = .ok (.aload_n 0, 1) := by decide +kernel
theorem dX10_write_1 : decode cX10_write 1 = .ok (.getfield 92, 3) := by decide +kernel
theorem dX10_write_4 : decode cX10_write 4 = .ok (.iload_n 1, 1) := by decide +kernel
theorem dX10_write_5 : decode cX10_write 5 = .ok (.baload, 1) := by decide +kernel
theorem dX10_write_6 : decode cX10_write 6 = .ok (.ifCond .eq 15, 3) := by decide +kernel
theorem dX10_write_9 : decode cX10_write 9 = .ok (.aload_n 0, 1) := by decide +kernel
theorem dX10_write_10 : decode cX10_write 10 = .ok (.getfield 71, 3) := by decide +kernel
theorem dX10_write_13 : decode cX10_write 13 = .ok (.iload_n 1, 1) := by decide +kernel
theorem dX10_write_14 : decode cX10_write 14 = .ok (.iconst 0, 1) := by decide +kernel
theorem dX10_write_15 : decode cX10_write 15 = .ok (.iastore, 1) := by decide +kernel
theorem dX10_write_16 : decode cX10_write 16 = .ok (.aload_n 0, 1) := by decide +kernel
theorem dX10_write_17 : decode cX10_write 17 = .ok (.iload_n 1, 1) := by decide +kernel
theorem dX10_write_18 : decode cX10_write 18 = .ok (.invokevirtual 255, 3) := by decide +kernel
theorem dX10_write_21 : decode cX10_write 21 = .ok (.aload_n 0, 1) := by decide +kernel
theorem dX10_write_22 : decode cX10_write 22 = .ok (.getfield 95, 3) := by decide +kernel
theorem dX10_write_25 : decode cX10_write 25 = .ok (.iload_n 1, 1) := by decide +kernel
theorem dX10_write_26 : decode cX10_write 26 = .ok (.baload, 1) := by decide +kernel
theorem dX10_write_27 : decode cX10_write 27 = .ok (.ifCond .eq 21, 3) := by decide +kernel
theorem dX10_write_30 : decode cX10_write 30 = .ok (.aload_n 0, 1) := by decide +kernel
theorem dX10_write_31 : decode cX10_write 31 = .ok (.iload_n 1, 1) := by decide +kernel
theorem dX10_write_32 : decode cX10_write 32 = .ok (.aload_n 0, 1) := by decide +kernel
theorem dX10_write_33 : decode cX10_write 33 = .ok (.getfield 68, 3) := by decide +kernel
theorem dX10_write_36 : decode cX10_write 36 = .ok (.iload_n 1, 1) := by decide +kernel
theorem dX10_write_37 : decode cX10_write 37 = .ok (.iaload, 1) := by decide +kernel
theorem dX10_write_38 : decode cX10_write 38 = .ok (.aload_n 0, 1) := by decide +kernel
theorem dX10_write_39 : decode cX10_write 39 = .ok (.getfield 71, 3) := by decide +kernel
theorem dX10_write_42 : decode cX10_write 42 = .ok (.iload_n 1, 1) := by decide +kernel
theorem dX10_write_43 : decode cX10_write 43 = .ok (.iaload, 1) := by decide +kernel
theorem dX10_write_44 : decode cX10_write 44 = .ok (.iconst 1, 1) := by decide +kernel
theorem dX10_write_45 : decode cX10_write 45 = .ok (.invokevirtual 258, 3) := by decide +kernel
theorem dX10_write_48 : decode cX10_write 48 = .ok (.aload_n 0, 1) := by decide +kernel
theorem dX10_write_49 : decode cX10_write 49 = .ok (.getfield 59, 3) := by decide +kernel
theorem dX10_write_52 : decode cX10_write 52 = .ok (.aload_n 0, 1) := by decide +kernel
theorem dX10_write_53 : decode cX10_write 53 = .ok (.iload_n 1, 1) := by decide +kernel
theorem dX10_write_54 : decode cX10_write 54 = .ok (.aload_n 0, 1) := by decide +kernel
theorem dX10_write_55 : decode cX10_write 55 = .ok (.getfield 68, 3) := by decide +kernel
theorem dX10_write_58 : decode cX10_write 58 = .ok (.iload_n 1, 1) := by decide +kernel
theorem dX10_write_59 : decode cX10_write 59 = .ok (.iaload, 1) := by decide +kernel
theorem dX10_write_60 : decode cX10_write 60 = .ok (.aload_n 0, 1) := by decide +kernel
theorem dX10_write_61 : decode cX10_write 61 = .ok (.getfield 71, 3) := by decide +kernel
theorem dX10_write_64 : decode cX10_write 64 = .ok (.iload_n 1, 1) := by decide +kernel
theorem dX10_write_65 : decode cX10_write 65 = .ok (.iaload, 1) := by decide +kernel
theorem dX10_write_66 : decode cX10_write 66 = .ok (.invokevirtual 231, 3) := by decide +kernel
theorem dX10_write_69 : decode cX10_write 69 = .ok (.iload_n 2, 1) := by decide +kernel
theorem dX10_write_70 : decode cX10_write 70 = .ok (.iastore, 1) := by decide +kernel
theorem dX10_write_71 : decode cX10_write 71 = .ok (.aload_n 0, 1) := by decide +kernel
theorem dX10_write_72 : decode cX10_write 72 = .ok (.getfield 62, 3) := by decide +kernel
theorem dX10_write_75 : decode cX10_write 75 = .ok (.aload_n 0, 1) := by decide +kernel
theorem dX10_write_76 : decode cX10_write 76 = .ok (.iload_n 1, 1) := by decide +kernel
theorem dX10_write_77 : decode cX10_write 77 = .ok (.aload_n 0, 1) := by decide +kernel
theorem dX10_write_78 : decode cX10_write 78 = .ok (.getfield 68, 3) := by decide +kernel
theorem dX10_write_81 : decode cX10_write 81 = .ok (.iload_n 1, 1) := by decide +kernel
theorem dX10_write_82 : decode cX10_write 82 = .ok (.iaload, 1) := by decide +kernel
theorem dX10_write_83 : decode cX10_write 83 = .ok (.aload_n 0, 1) := by decide +kernel
theorem dX10_write_84 : decode cX10_write 84 = .ok (.getfield 71, 3) := by decide +kernel
theorem dX10_write_87 : decode cX10_write 87 = .ok (.iload_n 1, 1) := by decide +kernel
theorem dX10_write_88 : decode cX10_write 88 = .ok (.iaload, 1) := by decide +kernel
theorem dX10_write_89 : decode cX10_write 89 = .ok (.invokevirtual 231, 3) := by decide +kernel
theorem dX10_write_92 : decode cX10_write 92 = .ok (.aload_n 0, 1) := by decide +kernel
theorem dX10_write_93 : decode cX10_write 93 = .ok (.getfield 74, 3) := by decide +kernel
theorem dX10_write_96 : decode cX10_write 96 = .ok (.iload_n 1, 1) := by decide +kernel
theorem dX10_write_97 : decode cX10_write 97 = .ok (.iaload, 1) := by decide +kernel
theorem dX10_write_98 : decode cX10_write 98 = .ok (.iastore, 1) := by decide +kernel
theorem dX10_write_99 : decode cX10_write 99 = .ok (.aload_n 0, 1) := by decide +kernel
theorem dX10_write_100 : decode cX10_write 100 = .ok (.getfield 71, 3) := by decide +kernel
theorem dX10_write_103 : decode cX10_write 103 = .ok (.iload_n 1, 1) := by decide +kernel
theorem dX10_write_104 : decode cX10_write 104 = .ok (.iaload, 1) := by decide +kernel
theorem dX10_write_105 : decode cX10_write 105 = .ok (.aload_n 0, 1) := by decide +kernel
theorem dX10_write_106 : decode cX10_write 106 = .ok (.getfield 53, 3) := by decide +kernel
theorem dX10_write_109 : decode cX10_write 109 = .ok (.iload_n 1, 1) := by decide +kernel
theorem dX10_write_110 : decode cX10_write 110 = .ok (.iaload, 1) := by decide +kernel
theorem dX10_write_111 : decode cX10_write 111 = .ok (.iconst 1, 1) := by decide +kernel
theorem dX10_write_112 : decode cX10_write 112 = .ok (.isub, 1) := by decide +kernel
theorem dX10_write_113 : decode cX10_write 113 = .ok (.if_icmp .ne 18, 3) := by decide +kernel
theorem dX10_write_116 : decode cX10_write 116 = .ok (.aload_n 0, 1) := by decide +kernel
theorem dX10_write_117 : decode cX10_write 117 = .ok (.getfield 92, 3) := by decide +kernel
theorem dX10_write_120 : decode cX10_write 120 = .ok (.iload_n 1, 1) := by decide +kernel
theorem dX10_write_121 : decode cX10_write 121 = .ok (.aload_n 0, 1) := by decide +kernel
theorem dX10_write_122 : decode cX10_write 122 = .ok (.getfield 98, 3) := by decide +kernel
theorem dX10_write_125 : decode cX10_write 125 = .ok (.iload_n 1, 1) := by decide +kernel
theorem dX10_write_126 : decode cX10_write 126 = .ok (.baload, 1) := by decide +kernel
theorem dX10_write_127 : decode cX10_write 127 = .ok (.bastore, 1) := by decide +kernel
theorem dX10_write_128 : decode cX10_write 128 = .ok (.goto 13, 3) := by decide +kernel
theorem dX10_write_131 : decode cX10_write 131 = .ok (.aload_n 0, 1) := by decide +kernel
theorem dX10_write_132 : decode cX10_write 132 = .ok (.getfield 71, 3) := by decide +kernel
theorem dX10_write_135 : decode cX10_write 135 = .ok (.iload_n 1, 1) := by decide +kernel
theorem dX10_write_136 : decode cX10_write 136 = .ok (.dup2, 1) := by decide +kernel
theorem dX10_write_137 : decode cX10_write 137 = .ok (.iaload, 1) := by decide +kernel
theorem dX10_write_138 : decode cX10_write 138 = .ok (.iconst 1, 1) := by decide +kernel
theorem dX10_write_139 : decode cX10_write 139 = .ok (.iadd, 1) := by decide +kernel
theorem dX10_write_140 : decode cX10_write 140 = .ok (.iastore, 1) := by decide +kernel
theorem dX10_write_141 : decode cX10_write 141 = .ok (.return_, 1) := by decide +kernel
theorem dX10_moveTo_0 : decode cX10_moveTo 0 = .ok (.aload_n 0, 1) := by decide +kernel
theorem dX10_moveTo_1 : decode cX10_moveTo 1 = .ok (.getfield 68, 3) := by decide +kernel
theorem dX10_moveTo_4 : decode cX10_moveTo 4 = .ok (.iload_n 1, 1) := by decide +kernel
theorem dX10_moveTo_5 : decode cX10_moveTo 5 = .ok (.iload_n 2, 1) := by decide +kernel
theorem dX10_moveTo_6 : decode cX10_moveTo 6 = .ok (.ifCond .ge 7, 3) := by decide +kernel
theorem dX10_moveTo_9 : decode cX10_moveTo 9 = .ok (.iconst 0, 1) := by decide +kernel
theorem dX10_moveTo_10 : decode cX10_moveTo 10 = .ok (.goto 15, 3) := by decide +kernel
theorem dX10_moveTo_13 : decode cX10_moveTo 13 = .ok (.iload_n 2, 1) := by decide +kernel
theorem dX10_moveTo_14 : decode cX10_moveTo 14 = .ok (.aload_n 0, 1) := by decide +kernel
theorem dX10_moveTo_15 : decode cX10_moveTo 15 = .ok (.getfield 56, 3) := by decide +kernel
theorem dX10_moveTo_18 : decode cX10_moveTo 18 = .ok (.iload_n 1, 1) := by decide +kernel
theorem dX10_moveTo_19 : decode cX10_moveTo 19 = .ok (.iaload, 1) := by decide +kernel
theorem dX10_moveTo_20 : decode cX10_moveTo 20 = .ok (.iconst 1, 1) := by decide +kernel
theorem dX10_moveTo_21 : decode cX10_moveTo 21 = .ok (.isub, 1) := by decide +kernel
theorem dX10_moveTo_22 : decode cX10_moveTo 22 = .ok (.invokestatic 192, 3) := by decide +kernel
theorem dX10_moveTo_25 : decode cX10_moveTo 25 = .ok (.iastore, 1) := by decide +kernel
theorem dX10_moveTo_26 : decode cX10_moveTo 26 = .ok (.aload_n 0, 1) := by decide +kernel
theorem dX10_moveTo_27 : decode cX10_moveTo 27 = .ok (.getfield 71, 3) := by decide +kernel
theorem dX10_moveTo_30 : decode cX10_moveTo 30 = .ok (.iload_n 1, 1) := by decide +kernel
theorem dX10_moveTo_31 : decode cX10_moveTo 31 = .ok (.iload_n 3, 1) := by decide +kernel
theorem dX10_moveTo_32 : decode cX10_moveTo 32 = .ok (.ifCond .ge 7, 3) := by decide +kernel
theorem dX10_moveTo_35 : decode cX10_moveTo 35 = .ok (.iconst 0, 1) := by decide +kernel
theorem dX10_moveTo_36 : decode cX10_moveTo 36 = .ok (.goto 15, 3) := by decide +kernel
theorem dX10_moveTo_39 : decode cX10_moveTo 39 = .ok (.iload_n 3, 1) := by decide +kernel
theorem dX10_moveTo_40 : decode cX10_moveTo 40 = .ok (.aload_n 0, 1) := by decide +kernel
theorem dX10_moveTo_41 : decode cX10_moveTo 41 = .ok (.getfield 53, 3) := by decide +kernel
theorem dX10_moveTo_44 : decode cX10_moveTo 44 = .ok (.iload_n 1, 1) := by decide +kernel
theorem dX10_moveTo_45 : decode cX10_moveTo 45 = .ok (.iaload, 1) := by decide +kernel
theorem dX10_moveTo_46 : decode cX10_moveTo 46 = .ok (.iconst 1, 1) := by decide +kernel
theorem dX10_moveTo_47 : decode cX10_moveTo 47 = .ok (.isub, 1) := by decide +kernel
theorem dX10_moveTo_48 : decode cX10_moveTo 48 = .ok (.invokestatic 192, 3) := by decide +kernel
theorem dX10_moveTo_51 : decode cX10_moveTo 51 = .ok (.iastore, 1) := by decide +kernel
theorem dX10_moveTo_52 : decode cX10_moveTo 52 = .ok (.aload_n 0, 1) := by decide +kernel
theorem dX10_moveTo_53 : decode cX10_moveTo 53 = .ok (.getfield 92, 3) := by decide +kernel
theorem dX10_moveTo_56 : decode cX10_moveTo 56 = .ok (.iload_n 1, 1) := by decide +kernel
theorem dX10_moveTo_57 : decode cX10_moveTo 57 = .ok (.iconst 0, 1) := by decide +kernel
theorem dX10_moveTo_58 : decode cX10_moveTo 58 = .ok (.bastore, 1) := by decide +kernel
theorem dX10_moveTo_59 : decode cX10_moveTo 59 = .ok (.return_, 1) := by decide +kernel
theorem dX10_isPlain_0 : decode cX10_isPlain 0 = .ok (.iload_n 2, 1) := by decide +kernel
theorem dX10_isPlain_1 : decode cX10_isPlain 1 = .ok (.bipush 8, 2) := by decide +kernel
theorem dX10_isPlain_3 : decode cX10_isPlain 3 = .ok (.if_icmp .ne 25, 3) := by decide +kernel
theorem dX10_isPlain_6 : decode cX10_isPlain 6 = .ok (.aload_n 0, 1) := by decide +kernel
theorem dX10_isPlain_7 : decode cX10_isPlain 7 = .ok (.iload_n 1, 1) := by decide +kernel
theorem dX10_isPlain_8 : decode cX10_isPlain 8 = .ok (.aload_n 0, 1) := by decide +kernel
theorem dX10_isPlain_9 : decode cX10_isPlain 9 = .ok (.getfield 68, 3) := by decide +kernel
theorem dX10_isPlain_12 : decode cX10_isPlain 12 = .ok (.iload_n 1, 1) := by decide +kernel
theorem dX10_isPlain_13 : decode cX10_isPlain 13 = .ok (.iaload, 1) := by decide +kernel
theorem dX10_isPlain_14 : decode cX10_isPlain 14 = .ok (.aload_n 0, 1) := by decide +kernel
theorem dX10_isPlain_15 : decode cX10_isPlain 15 = .ok (.getfield 71, 3) := by decide +kernel
theorem dX10_isPlain_18 : decode cX10_isPlain 18 = .ok (.iload_n 1, 1) := by decide +kernel
theorem dX10_isPlain_19 : decode cX10_isPlain 19 = .ok (.iaload, 1) := by decide +kernel
theorem dX10_isPlain_20 : decode cX10_isPlain 20 = .ok (.iconst 1, 1) := by decide +kernel
theorem dX10_isPlain_21 : decode cX10_isPlain 21 = .ok (.isub, 1) := by decide +kernel
theorem dX10_isPlain_22 : decode cX10_isPlain 22 = .ok (.invokevirtual 261, 3) := by decide +kernel
theorem dX10_isPlain_25 : decode cX10_isPlain 25 = .ok (.goto 90, 3) := by decide +kernel
theorem dX10_isPlain_28 : decode cX10_isPlain 28 = .ok (.iload_n 2, 1) := by decide +kernel
theorem dX10_isPlain_29 : decode cX10_isPlain 29 = .ok (.bipush 9, 2) := by decide +kernel
theorem dX10_isPlain_31 : decode cX10_isPlain 31 = .ok (.if_icmp .ne 31, 3) := by decide +kernel
theorem dX10_isPlain_34 : decode cX10_isPlain 34 = .ok (.aload_n 0, 1) := by decide +kernel
theorem dX10_isPlain_35 : decode cX10_isPlain 35 = .ok (.iload_n 1, 1) := by decide +kernel
theorem dX10_isPlain_36 : decode cX10_isPlain 36 = .ok (.aload_n 0, 1) := by decide +kernel
theorem dX10_isPlain_37 : decode cX10_isPlain 37 = .ok (.getfield 68, 3) := by decide +kernel
theorem dX10_isPlain_40 : decode cX10_isPlain 40 = .ok (.iload_n 1, 1) := by decide +kernel
theorem dX10_isPlain_41 : decode cX10_isPlain 41 = .ok (.iaload, 1) := by decide +kernel
theorem dX10_isPlain_42 : decode cX10_isPlain 42 = .ok (.aload_n 0, 1) := by decide +kernel
theorem dX10_isPlain_43 : decode cX10_isPlain 43 = .ok (.getfield 71, 3) := by decide +kernel
theorem dX10_isPlain_46 : decode cX10_isPlain 46 = .ok (.iload_n 1, 1) := by decide +kernel
theorem dX10_isPlain_47 : decode cX10_isPlain 47 = .ok (.iaload, 1) := by decide +kernel
theorem dX10_isPlain_48 : decode cX10_isPlain 48 = .ok (.bipush 8, 2) := by decide +kernel
theorem dX10_isPlain_50 : decode cX10_isPlain 50 = .ok (.idiv, 1) := by decide +kernel
theorem dX10_isPlain_51 : decode cX10_isPlain 51 = .ok (.iconst 1, 1) := by decide +kernel
theorem dX10_isPlain_52 : decode cX10_isPlain 52 = .ok (.iadd, 1) := by decide +kernel
theorem dX10_isPlain_53 : decode cX10_isPlain 53 = .ok (.bipush 8, 2) := by decide +kernel
theorem dX10_isPlain_55 : decode cX10_isPlain 55 = .ok (.imul, 1) := by decide +kernel
theorem dX10_isPlain_56 : decode cX10_isPlain 56 = .ok (.invokevirtual 261, 3) := by decide +kernel
theorem dX10_isPlain_59 : decode cX10_isPlain 59 = .ok (.goto 56, 3) := by decide +kernel
theorem dX10_isPlain_62 : decode cX10_isPlain 62 = .ok (.iload_n 2, 1) := by decide +kernel
theorem dX10_isPlain_63 : decode cX10_isPlain 63 = .ok (.bipush 13, 2) := by decide +kernel
theorem dX10_isPlain_65 : decode cX10_isPlain 65 = .ok (.if_icmp .ne 18, 3) := by decide +kernel
theorem dX10_isPlain_68 : decode cX10_isPlain 68 = .ok (.aload_n 0, 1) := by decide +kernel
theorem dX10_isPlain_69 : decode cX10_isPlain 69 = .ok (.iload_n 1, 1) := by decide +kernel
theorem dX10_isPlain_70 : decode cX10_isPlain 70 = .ok (.aload_n 0, 1) := by decide +kernel
theorem dX10_isPlain_71 : decode cX10_isPlain 71 = .ok (.getfield 68, 3) := by decide +kernel
theorem dX10_isPlain_74 : decode cX10_isPlain 74 = .ok (.iload_n 1, 1) := by decide +kernel
theorem dX10_isPlain_75 : decode cX10_isPlain 75 = .ok (.iaload, 1) := by decide +kernel
theorem dX10_isPlain_76 : decode cX10_isPlain 76 = .ok (.iconst 0, 1) := by decide +kernel
theorem dX10_isPlain_77 : decode cX10_isPlain 77 = .ok (.invokevirtual 261, 3) := by decide +kernel
theorem dX10_isPlain_80 : decode cX10_isPlain 80 = .ok (.goto 35, 3) := by decide +kernel
theorem dX10_isPlain_83 : decode cX10_isPlain 83 = .ok (.iload_n 2, 1) := by decide +kernel
theorem dX10_isPlain_84 : decode cX10_isPlain 84 = .ok (.bipush 10, 2) := by decide +kernel
theorem dX10_isPlain_86 : decode cX10_isPlain 86 = .ok (.if_icmp .ne 11, 3) := by decide +kernel
theorem dX10_isPlain_89 : decode cX10_isPlain 89 = .ok (.aload_n 0, 1) := by decide +kernel
theorem dX10_isPlain_90 : decode cX10_isPlain 90 = .ok (.iload_n 1, 1) := by decide +kernel
theorem dX10_isPlain_91 : decode cX10_isPlain 91 = .ok (.invokevirtual 255, 3) := by decide +kernel
theorem dX10_isPlain_94 : decode cX10_isPlain 94 = .ok (.goto 21, 3) := by decide +kernel
theorem dX10_isPlain_97 : decode cX10_isPlain 97 = .ok (.iload_n 2, 1) := by decide +kernel
theorem dX10_isPlain_98 : decode cX10_isPlain 98 = .ok (.bipush 27, 2) := by decide +kernel
theorem dX10_isPlain_100 : decode cX10_isPlain 100 = .ok (.if_icmp .ne 13, 3) := by decide +kernel
theorem dX10_isPlain_103 : decode cX10_isPlain 103 = .ok (.aload_n 0, 1) := by decide +kernel
theorem dX10_isPlain_104 : decode cX10_isPlain 104 = .ok (.getfield 104, 3) := by decide +kernel
theorem dX10_isPlain_107 : decode cX10_isPlain 107 = .ok (.iload_n 1, 1) := by decide +kernel
theorem dX10_isPlain_108 : decode cX10_isPlain 108 = .ok (.iconst 1, 1) := by decide +kernel
theorem dX10_isPlain_109 : decode cX10_isPlain 109 = .ok (.iastore, 1) := by decide +kernel
theorem dX10_isPlain_110 : decode cX10_isPlain 110 = .ok (.goto 5, 3) := by decide +kernel
theorem dX10_isPlain_113 : decode cX10_isPlain 113 = .ok (.iconst 0, 1) := by decide +kernel
theorem dX10_isPlain_114 : decode cX10_isPlain 114 = .ok (.ireturn, 1) := by decide +kernel
theorem dX10_isPlain_115 : decode cX10_isPlain 115 = .ok (.iconst 1, 1) := by decide +kernel
theorem dX10_isPlain_116 : decode cX10_isPlain 116 = .ok (.ireturn, 1) := by decide +kernel
theorem dX10_take_0 : decode cX10_take 0 = .ok (.aload_n 0, 1) := by decide +kernel
theorem dX10_take_1 : decode cX10_take 1 = .ok (.iload_n 1, 1) := by decide +kernel
theorem dX10_take_2 : decode cX10_take 2 = .ok (.iload_n 2, 1) := by decide +kernel
theorem dX10_take_3 : decode cX10_take 3 = .ok (.invokevirtual 264, 3) := by decide +kernel
theorem dX10_take_6 : decode cX10_take 6 = .ok (.ifCond .eq 4, 3) := by decide +kernel
theorem dX10_take_9 : decode cX10_take 9 = .ok (.return_, 1) := by decide +kernel
theorem dX10_take_10 : decode cX10_take 10 = .ok (.aload_n 0, 1) := by decide +kernel
theorem dX10_take_11 : decode cX10_take 11 = .ok (.getfield 104, 3) := by decide +kernel
theorem dX10_take_14 : decode cX10_take 14 = .ok (.iload_n 1, 1) := by decide +kernel
theorem dX10_take_15 : decode cX10_take 15 = .ok (.iaload, 1) := by decide +kernel
theorem dX10_take_16 : decode cX10_take 16 = .ok (.ifCond .ne 24, 3) := by decide +kernel
theorem dX10_take_19 : decode cX10_take 19 = .ok (.iload_n 2, 1) := by decide +kernel
theorem dX10_take_20 : decode cX10_take 20 = .ok (.bipush 32, 2) := by decide +kernel
theorem dX10_take_22 : decode cX10_take 22 = .ok (.if_icmp .lt 43, 3) := by decide +kernel
theorem dX10_take_25 : decode cX10_take 25 = .ok (.iload_n 2, 1) := by decide +kernel
theorem dX10_take_26 : decode cX10_take 26 = .ok (.bipush 126, 2) := by decide +kernel
theorem dX10_take_28 : decode cX10_take 28 = .ok (.if_icmp .gt 37, 3) := by decide +kernel
theorem dX10_take_31 : decode cX10_take 31 = .ok (.aload_n 0, 1) := by decide +kernel
theorem dX10_take_32 : decode cX10_take 32 = .ok (.iload_n 1, 1) := by decide +kernel
theorem dX10_take_33 : decode cX10_take 33 = .ok (.iload_n 2, 1) := by decide +kernel
theorem dX10_take_34 : decode cX10_take 34 = .ok (.invokevirtual 268, 3) := by decide +kernel
theorem dX10_take_37 : decode cX10_take 37 = .ok (.goto 28, 3) := by decide +kernel
theorem dX10_take_40 : decode cX10_take 40 = .ok (.aload_n 0, 1) := by decide +kernel
theorem dX10_take_41 : decode cX10_take 41 = .ok (.getfield 104, 3) := by decide +kernel
theorem dX10_take_44 : decode cX10_take 44 = .ok (.iload_n 1, 1) := by decide +kernel
theorem dX10_take_45 : decode cX10_take 45 = .ok (.iaload, 1) := by decide +kernel
theorem dX10_take_46 : decode cX10_take 46 = .ok (.iconst 1, 1) := by decide +kernel
theorem dX10_take_47 : decode cX10_take 47 = .ok (.if_icmp .ne 12, 3) := by decide +kernel
theorem dX10_take_50 : decode cX10_take 50 = .ok (.aload_n 0, 1) := by decide +kernel
theorem dX10_take_51 : decode cX10_take 51 = .ok (.iload_n 1, 1) := by decide +kernel
theorem dX10_take_52 : decode cX10_take 52 = .ok (.iload_n 2, 1) := by decide +kernel
theorem dX10_take_53 : decode cX10_take 53 = .ok (.invokevirtual 271, 3) := by decide +kernel
theorem dX10_take_56 : decode cX10_take 56 = .ok (.goto 9, 3) := by decide +kernel
theorem dX10_take_59 : decode cX10_take 59 = .ok (.aload_n 0, 1) := by decide +kernel
theorem dX10_take_60 : decode cX10_take 60 = .ok (.iload_n 1, 1) := by decide +kernel
theorem dX10_take_61 : decode cX10_take 61 = .ok (.iload_n 2, 1) := by decide +kernel
theorem dX10_take_62 : decode cX10_take 62 = .ok (.invokevirtual 274, 3) := by decide +kernel
theorem dX10_take_65 : decode cX10_take 65 = .ok (.return_, 1) := by decide +kernel
theorem dX10_shortSequence_0 : decode cX10_shortSequence 0 = .ok (.aload_n 0, 1) := by decide +kernel
theorem dX10_shortSequence_1 : decode cX10_shortSequence 1 = .ok (.getfield 104, 3) := by decide +kernel
theorem dX10_shortSequence_4 : decode cX10_shortSequence 4 = .ok (.iload_n 1, 1) := by decide +kernel
theorem dX10_shortSequence_5 : decode cX10_shortSequence 5 = .ok (.iconst 0, 1) := by decide +kernel
theorem dX10_shortSequence_6 : decode cX10_shortSequence 6 = .ok (.iastore, 1) := by decide +kernel
theorem dX10_shortSequence_7 : decode cX10_shortSequence 7 = .ok (.iload_n 2, 1) := by decide +kernel
theorem dX10_shortSequence_8 : decode cX10_shortSequence 8 = .ok (.bipush 55, 2) := by decide +kernel
theorem dX10_shortSequence_10 : decode cX10_shortSequence 10 = .ok (.if_icmp .ne 42, 3) := by decide +kernel
theorem dX10_shortSequence_13 : decode cX10_shortSequence 13 = .ok (.aload_n 0, 1) := by decide +kernel
theorem dX10_shortSequence_14 : decode cX10_shortSequence 14 = .ok (.getfield 77, 3) := by decide +kernel
theorem dX10_shortSequence_17 : decode cX10_shortSequence 17 = .ok (.iload_n 1, 1) := by decide +kernel
theorem dX10_shortSequence_18 : decode cX10_shortSequence 18 = .ok (.aload_n 0, 1) := by decide +kernel
theorem dX10_shortSequence_19 : decode cX10_shortSequence 19 = .ok (.getfield 68, 3) := by decide +kernel
theorem dX10_shortSequence_22 : decode cX10_shortSequence 22 = .ok (.iload_n 1, 1) := by decide +kernel
theorem dX10_shortSequence_23 : decode cX10_shortSequence 23 = .ok (.iaload, 1) := by decide +kernel
theorem dX10_shortSequence_24 : decode cX10_shortSequence 24 = .ok (.iastore, 1) := by decide +kernel
theorem dX10_shortSequence_25 : decode cX10_shortSequence 25 = .ok (.aload_n 0, 1) := by decide +kernel
theorem dX10_shortSequence_26 : decode cX10_shortSequence 26 = .ok (.getfield 80, 3) := by decide +kernel
theorem dX10_shortSequence_29 : decode cX10_shortSequence 29 = .ok (.iload_n 1, 1) := by decide +kernel
theorem dX10_shortSequence_30 : decode cX10_shortSequence 30 = .ok (.aload_n 0, 1) := by decide +kernel
theorem dX10_shortSequence_31 : decode cX10_shortSequence 31 = .ok (.getfield 71, 3) := by decide +kernel
theorem dX10_shortSequence_34 : decode cX10_shortSequence 34 = .ok (.iload_n 1, 1) := by decide +kernel
theorem dX10_shortSequence_35 : decode cX10_shortSequence 35 = .ok (.iaload, 1) := by decide +kernel
theorem dX10_shortSequence_36 : decode cX10_shortSequence 36 = .ok (.iastore, 1) := by decide +kernel
theorem dX10_shortSequence_37 : decode cX10_shortSequence 37 = .ok (.aload_n 0, 1) := by decide +kernel
theorem dX10_shortSequence_38 : decode cX10_shortSequence 38 = .ok (.getfield 83, 3) := by decide +kernel
theorem dX10_shortSequence_41 : decode cX10_shortSequence 41 = .ok (.iload_n 1, 1) := by decide +kernel
theorem dX10_shortSequence_42 : decode cX10_shortSequence 42 = .ok (.aload_n 0, 1) := by decide +kernel
theorem dX10_shortSequence_43 : decode cX10_shortSequence 43 = .ok (.getfield 74, 3) := by decide +kernel
theorem dX10_shortSequence_46 : decode cX10_shortSequence 46 = .ok (.iload_n 1, 1) := by decide +kernel
theorem dX10_shortSequence_47 : decode cX10_shortSequence 47 = .ok (.iaload, 1) := by decide +kernel
theorem dX10_shortSequence_48 : decode cX10_shortSequence 48 = .ok (.iastore, 1) := by decide +kernel
theorem dX10_shortSequence_49 : decode cX10_shortSequence 49 = .ok (.goto 141, 3) := by decide +kernel
theorem dX10_shortSequence_52 : decode cX10_shortSequence 52 = .ok (.iload_n 2, 1) := by decide +kernel
theorem dX10_shortSequence_53 : decode cX10_shortSequence 53 = .ok (.bipush 56, 2) := by decide +kernel
theorem dX10_shortSequence_55 : decode cX10_shortSequence 55 = .ok (.if_icmp .ne 35, 3) := by decide +kernel
theorem dX10_shortSequence_58 : decode cX10_shortSequence 58 = .ok (.aload_n 0, 1) := by decide +kernel
theorem dX10_shortSequence_59 : decode cX10_shortSequence 59 = .ok (.iload_n 1, 1) := by decide +kernel
theorem dX10_shortSequence_60 : decode cX10_shortSequence 60 = .ok (.aload_n 0, 1) := by decide +kernel
theorem dX10_shortSequence_61 : decode cX10_shortSequence 61 = .ok (.getfield 77, 3) := by decide +kernel
theorem dX10_shortSequence_64 : decode cX10_shortSequence 64 = .ok (.iload_n 1, 1) := by decide +kernel
theorem dX10_shortSequence_65 : decode cX10_shortSequence 65 = .ok (.iaload, 1) := by decide +kernel
theorem dX10_shortSequence_66 : decode cX10_shortSequence 66 = .ok (.aload_n 0, 1) := by decide +kernel
theorem dX10_shortSequence_67 : decode cX10_shortSequence 67 = .ok (.getfield 80, 3) := by decide +kernel
theorem dX10_shortSequence_70 : decode cX10_shortSequence 70 = .ok (.iload_n 1, 1) := by decide +kernel
theorem dX10_shortSequence_71 : decode cX10_shortSequence 71 = .ok (.iaload, 1) := by decide +kernel
theorem dX10_shortSequence_72 : decode cX10_shortSequence 72 = .ok (.invokevirtual 261, 3) := by decide +kernel
theorem dX10_shortSequence_75 : decode cX10_shortSequence 75 = .ok (.aload_n 0, 1) := by decide +kernel
theorem dX10_shortSequence_76 : decode cX10_shortSequence 76 = .ok (.getfield 74, 3) := by decide +kernel
theorem dX10_shortSequence_79 : decode cX10_shortSequence 79 = .ok (.iload_n 1, 1) := by decide +kernel
theorem dX10_shortSequence_80 : decode cX10_shortSequence 80 = .ok (.aload_n 0, 1) := by decide +kernel
theorem dX10_shortSequence_81 : decode cX10_shortSequence 81 = .ok (.getfield 83, 3) := by decide +kernel
theorem dX10_shortSequence_84 : decode cX10_shortSequence 84 = .ok (.iload_n 1, 1) := by decide +kernel
theorem dX10_shortSequence_85 : decode cX10_shortSequence 85 = .ok (.iaload, 1) := by decide +kernel
theorem dX10_shortSequence_86 : decode cX10_shortSequence 86 = .ok (.iastore, 1) := by decide +kernel
theorem dX10_shortSequence_87 : decode cX10_shortSequence 87 = .ok (.goto 103, 3) := by decide +kernel
theorem dX10_shortSequence_90 : decode cX10_shortSequence 90 = .ok (.iload_n 2, 1) := by decide +kernel
theorem dX10_shortSequence_91 : decode cX10_shortSequence 91 = .ok (.bipush 68, 2) := by decide +kernel
theorem dX10_shortSequence_93 : decode cX10_shortSequence 93 = .ok (.if_icmp .ne 11, 3) := by decide +kernel
theorem dX10_shortSequence_96 : decode cX10_shortSequence 96 = .ok (.aload_n 0, 1) := by decide +kernel
theorem dX10_shortSequence_97 : decode cX10_shortSequence 97 = .ok (.iload_n 1, 1) := by decide +kernel
theorem dX10_shortSequence_98 : decode cX10_shortSequence 98 = .ok (.invokevirtual 255, 3) := by decide +kernel
theorem dX10_shortSequence_101 : decode cX10_shortSequence 101 = .ok (.goto 89, 3) := by decide +kernel
theorem dX10_shortSequence_104 : decode cX10_shortSequence 104 = .ok (.iload_n 2, 1) := by decide +kernel
theorem dX10_shortSequence_105 : decode cX10_shortSequence 105 = .ok (.bipush 77, 2) := by decide +kernel
theorem dX10_shortSequence_107 : decode cX10_shortSequence 107 = .ok (.if_icmp .ne 11, 3) := by decide +kernel
theorem dX10_shortSequence_110 : decode cX10_shortSequence 110 = .ok (.aload_n 0, 1) := by decide +kernel
theorem dX10_shortSequence_111 : decode cX10_shortSequence 111 = .ok (.iload_n 1, 1) := by decide +kernel
theorem dX10_shortSequence_112 : decode cX10_shortSequence 112 = .ok (.invokevirtual 277, 3) := by decide +kernel
theorem dX10_shortSequence_115 : decode cX10_shortSequence 115 = .ok (.goto 75, 3) := by decide +kernel
theorem dX10_shortSequence_118 : decode cX10_shortSequence 118 = .ok (.iload_n 2, 1) := by decide +kernel
theorem dX10_shortSequence_119 : decode cX10_shortSequence 119 = .ok (.bipush 99, 2) := by decide +kernel
theorem dX10_shortSequence_121 : decode cX10_shortSequence 121 = .ok (.if_icmp .ne 11, 3) := by decide +kernel
theorem dX10_shortSequence_124 : decode cX10_shortSequence 124 = .ok (.aload_n 0, 1) := by decide +kernel
theorem dX10_shortSequence_125 : decode cX10_shortSequence 125 = .ok (.iload_n 1, 1) := by decide +kernel
theorem dX10_shortSequence_126 : decode cX10_shortSequence 126 = .ok (.invokevirtual 188, 3) := by decide +kernel
theorem dX10_shortSequence_129 : decode cX10_shortSequence 129 = .ok (.goto 61, 3) := by decide +kernel
theorem dX10_shortSequence_132 : decode cX10_shortSequence 132 = .ok (.iload_n 2, 1) := by decide +kernel
theorem dX10_shortSequence_133 : decode cX10_shortSequence 133 = .ok (.bipush 91, 2) := by decide +kernel
theorem dX10_shortSequence_135 : decode cX10_shortSequence 135 = .ok (.if_icmp .ne 55, 3) := by decide +kernel
theorem dX10_shortSequence_138 : decode cX10_shortSequence 138 = .ok (.aload_n 0, 1) := by decide +kernel
theorem dX10_shortSequence_139 : decode cX10_shortSequence 139 = .ok (.getfield 104, 3) := by decide +kernel
theorem dX10_shortSequence_142 : decode cX10_shortSequence 142 = .ok (.iload_n 1, 1) := by decide +kernel
theorem dX10_shortSequence_143 : decode cX10_shortSequence 143 = .ok (.iconst 2, 1) := by decide +kernel
theorem dX10_shortSequence_144 : decode cX10_shortSequence 144 = .ok (.iastore, 1) := by decide +kernel
theorem dX10_shortSequence_145 : decode cX10_shortSequence 145 = .ok (.aload_n 0, 1) := by decide +kernel
theorem dX10_shortSequence_146 : decode cX10_shortSequence 146 = .ok (.getfield 110, 3) := by decide +kernel
theorem dX10_shortSequence_149 : decode cX10_shortSequence 149 = .ok (.iload_n 1, 1) := by decide +kernel
theorem dX10_shortSequence_150 : decode cX10_shortSequence 150 = .ok (.iconst 0, 1) := by decide +kernel
theorem dX10_shortSequence_151 : decode cX10_shortSequence 151 = .ok (.iastore, 1) := by decide +kernel
theorem dX10_shortSequence_152 : decode cX10_shortSequence 152 = .ok (.aload_n 0, 1) := by decide +kernel
theorem dX10_shortSequence_153 : decode cX10_shortSequence 153 = .ok (.getfield 113, 3) := by decide +kernel
theorem dX10_shortSequence_156 : decode cX10_shortSequence 156 = .ok (.iload_n 1, 1) := by decide +kernel
theorem dX10_shortSequence_157 : decode cX10_shortSequence 157 = .ok (.iconst 0, 1) := by decide +kernel
theorem dX10_shortSequence_158 : decode cX10_shortSequence 158 = .ok (.bastore, 1) := by decide +kernel
theorem dX10_shortSequence_159 : decode cX10_shortSequence 159 = .ok (.aload_n 0, 1) := by decide +kernel
theorem dX10_shortSequence_160 : decode cX10_shortSequence 160 = .ok (.getfield 116, 3) := by decide +kernel
theorem dX10_shortSequence_163 : decode cX10_shortSequence 163 = .ok (.iload_n 1, 1) := by decide +kernel
theorem dX10_shortSequence_164 : decode cX10_shortSequence 164 = .ok (.iconst 1, 1) := by decide +kernel
theorem dX10_shortSequence_165 : decode cX10_shortSequence 165 = .ok (.bastore, 1) := by decide +kernel
theorem dX10_shortSequence_166 : decode cX10_shortSequence 166 = .ok (.iconst 0, 1) := by decide +kernel
theorem dX10_shortSequence_167 : decode cX10_shortSequence 167 = .ok (.istore_n 3, 1) := by decide +kernel
theorem dX10_shortSequence_168 : decode cX10_shortSequence 168 = .ok (.iload_n 3, 1) := by decide +kernel
theorem dX10_shortSequence_169 : decode cX10_shortSequence 169 = .ok (.iconst 4, 1) := by decide +kernel
theorem dX10_shortSequence_170 : decode cX10_shortSequence 170 = .ok (.if_icmp .ge 20, 3) := by decide +kernel
theorem dX10_shortSequence_173 : decode cX10_shortSequence 173 = .ok (.aload_n 0, 1) := by decide +kernel
theorem dX10_shortSequence_174 : decode cX10_shortSequence 174 = .ok (.getfield 107, 3) := by decide +kernel
theorem dX10_shortSequence_177 : decode cX10_shortSequence 177 = .ok (.iconst 4, 1) := by decide +kernel
theorem dX10_shortSequence_178 : decode cX10_shortSequence 178 = .ok (.iload_n 1, 1) := by decide +kernel
theorem dX10_shortSequence_179 : decode cX10_shortSequence 179 = .ok (.imul, 1) := by decide +kernel
theorem dX10_shortSequence_180 : decode cX10_shortSequence 180 = .ok (.iload_n 3, 1) := by decide +kernel
theorem dX10_shortSequence_181 : decode cX10_shortSequence 181 = .ok (.iadd, 1) := by decide +kernel
theorem dX10_shortSequence_182 : decode cX10_shortSequence 182 = .ok (.iconst 0, 1) := by decide +kernel
theorem dX10_shortSequence_183 : decode cX10_shortSequence 183 = .ok (.iastore, 1) := by decide +kernel
theorem dX10_shortSequence_184 : decode cX10_shortSequence 184 = .ok (.iinc 3 1, 3) := by decide +kernel
theorem dX10_shortSequence_187 : decode cX10_shortSequence 187 = .ok (.goto (-19), 3) := by decide +kernel
theorem dX10_shortSequence_190 : decode cX10_shortSequence 190 = .ok (.return_, 1) := by decide +kernel
theorem dX10_longSequence_0 : decode cX10_longSequence 0 = .ok (.iload_n 2, 1) := by decide +kernel
theorem dX10_longSequence_1 : decode cX10_longSequence 1 = .ok (.bipush 32, 2) := by decide +kernel
theorem dX10_longSequence_3 : decode cX10_longSequence 3 = .ok (.if_icmp .lt 9, 3) := by decide +kernel
theorem dX10_longSequence_6 : decode cX10_longSequence 6 = .ok (.iload_n 2, 1) := by decide +kernel
theorem dX10_longSequence_7 : decode cX10_longSequence 7 = .ok (.bipush 126, 2) := by decide +kernel
theorem dX10_longSequence_9 : decode cX10_longSequence 9 = .ok (.if_icmp .le 4, 3) := by decide +kernel
theorem dX10_longSequence_12 : decode cX10_longSequence 12 = .ok (.return_, 1) := by decide +kernel
theorem dX10_longSequence_13 : decode cX10_longSequence 13 = .ok (.iload_n 2, 1) := by decide +kernel
theorem dX10_longSequence_14 : decode cX10_longSequence 14 = .ok (.bipush 63, 2) := by decide +kernel
theorem dX10_longSequence_16 : decode cX10_longSequence 16 = .ok (.if_icmp .ne 22, 3) := by decide +kernel
theorem dX10_longSequence_19 : decode cX10_longSequence 19 = .ok (.aload_n 0, 1) := by decide +kernel
theorem dX10_longSequence_20 : decode cX10_longSequence 20 = .ok (.getfield 116, 3) := by decide +kernel
theorem dX10_longSequence_23 : decode cX10_longSequence 23 = .ok (.iload_n 1, 1) := by decide +kernel
theorem dX10_longSequence_24 : decode cX10_longSequence 24 = .ok (.baload, 1) := by decide +kernel
theorem dX10_longSequence_25 : decode cX10_longSequence 25 = .ok (.ifCond .eq 13, 3) := by decide +kernel
theorem dX10_longSequence_28 : decode cX10_longSequence 28 = .ok (.aload_n 0, 1) := by decide +kernel
theorem dX10_longSequence_29 : decode cX10_longSequence 29 = .ok (.getfield 113, 3) := by decide +kernel
theorem dX10_longSequence_32 : decode cX10_longSequence 32 = .ok (.iload_n 1, 1) := by decide +kernel
theorem dX10_longSequence_33 : decode cX10_longSequence 33 = .ok (.iconst 1, 1) := by decide +kernel
theorem dX10_longSequence_34 : decode cX10_longSequence 34 = .ok (.bastore, 1) := by decide +kernel
theorem dX10_longSequence_35 : decode cX10_longSequence 35 = .ok (.goto 169, 3) := by decide +kernel
theorem dX10_longSequence_38 : decode cX10_longSequence 38 = .ok (.iload_n 2, 1) := by decide +kernel
theorem dX10_longSequence_39 : decode cX10_longSequence 39 = .ok (.bipush 48, 2) := by decide +kernel
theorem dX10_longSequence_41 : decode cX10_longSequence 41 = .ok (.if_icmp .lt 86, 3) := by decide +kernel
theorem dX10_longSequence_44 : decode cX10_longSequence 44 = .ok (.iload_n 2, 1) := by decide +kernel
theorem dX10_longSequence_45 : decode cX10_longSequence 45 = .ok (.bipush 57, 2) := by decide +kernel
theorem dX10_longSequence_47 : decode cX10_longSequence 47 = .ok (.if_icmp .gt 80, 3) := by decide +kernel
theorem dX10_longSequence_50 : decode cX10_longSequence 50 = .ok (.aload_n 0, 1) := by decide +kernel
theorem dX10_longSequence_51 : decode cX10_longSequence 51 = .ok (.getfield 110, 3) := by decide +kernel
theorem dX10_longSequence_54 : decode cX10_longSequence 54 = .ok (.iload_n 1, 1) := by decide +kernel
theorem dX10_longSequence_55 : decode cX10_longSequence 55 = .ok (.aload_n 0, 1) := by decide +kernel
theorem dX10_longSequence_56 : decode cX10_longSequence 56 = .ok (.getfield 110, 3) := by decide +kernel
theorem dX10_longSequence_59 : decode cX10_longSequence 59 = .ok (.iload_n 1, 1) := by decide +kernel
theorem dX10_longSequence_60 : decode cX10_longSequence 60 = .ok (.iaload, 1) := by decide +kernel
theorem dX10_longSequence_61 : decode cX10_longSequence 61 = .ok (.ifCond .ne 7, 3) := by decide +kernel
theorem dX10_longSequence_64 : decode cX10_longSequence 64 = .ok (.iconst 1, 1) := by decide +kernel
theorem dX10_longSequence_65 : decode cX10_longSequence 65 = .ok (.goto 9, 3) := by decide +kernel
theorem dX10_longSequence_68 : decode cX10_longSequence 68 = .ok (.aload_n 0, 1) := by decide +kernel
theorem dX10_longSequence_69 : decode cX10_longSequence 69 = .ok (.getfield 110, 3) := by decide +kernel
theorem dX10_longSequence_72 : decode cX10_longSequence 72 = .ok (.iload_n 1, 1) := by decide +kernel
theorem dX10_longSequence_73 : decode cX10_longSequence 73 = .ok (.iaload, 1) := by decide +kernel
theorem dX10_longSequence_74 : decode cX10_longSequence 74 = .ok (.iastore, 1) := by decide +kernel
theorem dX10_longSequence_75 : decode cX10_longSequence 75 = .ok (.iconst 4, 1) := by decide +kernel
theorem dX10_longSequence_76 : decode cX10_longSequence 76 = .ok (.iload_n 1, 1) := by decide +kernel
theorem dX10_longSequence_77 : decode cX10_longSequence 77 = .ok (.imul, 1) := by decide +kernel
theorem dX10_longSequence_78 : decode cX10_longSequence 78 = .ok (.aload_n 0, 1) := by decide +kernel
theorem dX10_longSequence_79 : decode cX10_longSequence 79 = .ok (.getfield 110, 3) := by decide +kernel
theorem dX10_longSequence_82 : decode cX10_longSequence 82 = .ok (.iload_n 1, 1) := by decide +kernel
theorem dX10_longSequence_83 : decode cX10_longSequence 83 = .ok (.iaload, 1) := by decide +kernel
theorem dX10_longSequence_84 : decode cX10_longSequence 84 = .ok (.iadd, 1) := by decide +kernel
theorem dX10_longSequence_85 : decode cX10_longSequence 85 = .ok (.iconst 1, 1) := by decide +kernel
theorem dX10_longSequence_86 : decode cX10_longSequence 86 = .ok (.isub, 1) := by decide +kernel
theorem dX10_longSequence_87 : decode cX10_longSequence 87 = .ok (.istore_n 3, 1) := by decide +kernel
theorem dX10_longSequence_88 : decode cX10_longSequence 88 = .ok (.aload_n 0, 1) := by decide +kernel
theorem dX10_longSequence_89 : decode cX10_longSequence 89 = .ok (.getfield 110, 3) := by decide +kernel
theorem dX10_longSequence_92 : decode cX10_longSequence 92 = .ok (.iload_n 1, 1) := by decide +kernel
theorem dX10_longSequence_93 : decode cX10_longSequence 93 = .ok (.iaload, 1) := by decide +kernel
theorem dX10_longSequence_94 : decode cX10_longSequence 94 = .ok (.iconst 4, 1) := by decide +kernel
theorem dX10_longSequence_95 : decode cX10_longSequence 95 = .ok (.if_icmp .gt 29, 3) := by decide +kernel
theorem dX10_longSequence_98 : decode cX10_longSequence 98 = .ok (.aload_n 0, 1) := by decide +kernel
theorem dX10_longSequence_99 : decode cX10_longSequence 99 = .ok (.getfield 107, 3) := by decide +kernel
theorem dX10_longSequence_102 : decode cX10_longSequence 102 = .ok (.iload_n 3, 1) := by decide +kernel
theorem dX10_longSequence_103 : decode cX10_longSequence 103 = .ok (.sipush 999, 3) := by decide +kernel
theorem dX10_longSequence_106 : decode cX10_longSequence 106 = .ok (.bipush 10, 2) := by decide +kernel
theorem dX10_longSequence_108 : decode cX10_longSequence 108 = .ok (.aload_n 0, 1) := by decide +kernel
theorem dX10_longSequence_109 : decode cX10_longSequence 109 = .ok (.getfield 107, 3) := by decide +kernel
theorem dX10_longSequence_112 : decode cX10_longSequence 112 = .ok (.iload_n 3, 1) := by decide +kernel
theorem dX10_longSequence_113 : decode cX10_longSequence 113 = .ok (.iaload, 1) := by decide +kernel
theorem dX10_longSequence_114 : decode cX10_longSequence 114 = .ok (.imul, 1) := by decide +kernel
theorem dX10_longSequence_115 : decode cX10_longSequence 115 = .ok (.iload_n 2, 1) := by decide +kernel
theorem dX10_longSequence_116 : decode cX10_longSequence 116 = .ok (.iadd, 1) := by decide +kernel
theorem dX10_longSequence_117 : decode cX10_longSequence 117 = .ok (.bipush 48, 2) := by decide +kernel
theorem dX10_longSequence_119 : decode cX10_longSequence 119 = .ok (.isub, 1) := by decide +kernel
theorem dX10_longSequence_120 : decode cX10_longSequence 120 = .ok (.invokestatic 192, 3) := by decide +kernel
theorem dX10_longSequence_123 : decode cX10_longSequence 123 = .ok (.iastore, 1) := by decide +kernel
theorem dX10_longSequence_124 : decode cX10_longSequence 124 = .ok (.goto 80, 3) := by decide +kernel
theorem dX10_longSequence_127 : decode cX10_longSequence 127 = .ok (.iload_n 2, 1) := by decide +kernel
theorem dX10_longSequence_128 : decode cX10_longSequence 128 = .ok (.bipush 59, 2) := by decide +kernel
theorem dX10_longSequence_130 : decode cX10_longSequence 130 = .ok (.if_icmp .ne 37, 3) := by decide +kernel
theorem dX10_longSequence_133 : decode cX10_longSequence 133 = .ok (.aload_n 0, 1) := by decide +kernel
theorem dX10_longSequence_134 : decode cX10_longSequence 134 = .ok (.getfield 110, 3) := by decide +kernel
theorem dX10_longSequence_137 : decode cX10_longSequence 137 = .ok (.iload_n 1, 1) := by decide +kernel
theorem dX10_longSequence_138 : decode cX10_longSequence 138 = .ok (.aload_n 0, 1) := by decide +kernel
theorem dX10_longSequence_139 : decode cX10_longSequence 139 = .ok (.getfield 110, 3) := by decide +kernel
theorem dX10_longSequence_142 : decode cX10_longSequence 142 = .ok (.iload_n 1, 1) := by decide +kernel
theorem dX10_longSequence_143 : decode cX10_longSequence 143 = .ok (.iaload, 1) := by decide +kernel
theorem dX10_longSequence_144 : decode cX10_longSequence 144 = .ok (.ifCond .ne 7, 3) := by decide +kernel
theorem dX10_longSequence_147 : decode cX10_longSequence 147 = .ok (.iconst 2, 1) := by decide +kernel
theorem dX10_longSequence_148 : decode cX10_longSequence 148 = .ok (.goto 15, 3) := by decide +kernel
theorem dX10_longSequence_151 : decode cX10_longSequence 151 = .ok (.iconst 5, 1) := by decide +kernel
theorem dX10_longSequence_152 : decode cX10_longSequence 152 = .ok (.aload_n 0, 1) := by decide +kernel
theorem dX10_longSequence_153 : decode cX10_longSequence 153 = .ok (.getfield 110, 3) := by decide +kernel
theorem dX10_longSequence_156 : decode cX10_longSequence 156 = .ok (.iload_n 1, 1) := by decide +kernel
theorem dX10_longSequence_157 : decode cX10_longSequence 157 = .ok (.iaload, 1) := by decide +kernel
theorem dX10_longSequence_158 : decode cX10_longSequence 158 = .ok (.iconst 1, 1) := by decide +kernel
theorem dX10_longSequence_159 : decode cX10_longSequence 159 = .ok (.iadd, 1) := by decide +kernel
theorem dX10_longSequence_160 : decode cX10_longSequence 160 = .ok (.invokestatic 192, 3) := by decide +kernel
theorem dX10_longSequence_163 : decode cX10_longSequence 163 = .ok (.iastore, 1) := by decide +kernel
theorem dX10_longSequence_164 : decode cX10_longSequence 164 = .ok (.goto 40, 3) := by decide +kernel
theorem dX10_longSequence_167 : decode cX10_longSequence 167 = .ok (.iload_n 2, 1) := by decide +kernel
theorem dX10_longSequence_168 : decode cX10_longSequence 168 = .ok (.bipush 64, 2) := by decide +kernel
theorem dX10_longSequence_170 : decode cX10_longSequence 170 = .ok (.if_icmp .lt 34, 3) := by decide +kernel
theorem dX10_longSequence_173 : decode cX10_longSequence 173 = .ok (.aload_n 0, 1) := by decide +kernel
theorem dX10_longSequence_174 : decode cX10_longSequence 174 = .ok (.getfield 104, 3) := by decide +kernel
theorem dX10_longSequence_177 : decode cX10_longSequence 177 = .ok (.iload_n 1, 1) := by decide +kernel
theorem dX10_longSequence_178 : decode cX10_longSequence 178 = .ok (.iconst 0, 1) := by decide +kernel
theorem dX10_longSequence_179 : decode cX10_longSequence 179 = .ok (.iastore, 1) := by decide +kernel
theorem dX10_longSequence_180 : decode cX10_longSequence 180 = .ok (.aload_n 0, 1) := by decide +kernel
theorem dX10_longSequence_181 : decode cX10_longSequence 181 = .ok (.getfield 113, 3) := by decide +kernel
theorem dX10_longSequence_184 : decode cX10_longSequence 184 = .ok (.iload_n 1, 1) := by decide +kernel
theorem dX10_longSequence_185 : decode cX10_longSequence 185 = .ok (.baload, 1) := by decide +kernel
theorem dX10_longSequence_186 : decode cX10_longSequence 186 = .ok (.ifCond .eq 12, 3) := by decide +kernel
theorem dX10_longSequence_189 : decode cX10_longSequence 189 = .ok (.aload_n 0, 1) := by decide +kernel
theorem dX10_longSequence_190 : decode cX10_longSequence 190 = .ok (.iload_n 1, 1) := by decide +kernel
theorem dX10_longSequence_191 : decode cX10_longSequence 191 = .ok (.iload_n 2, 1) := by decide +kernel
theorem dX10_longSequence_192 : decode cX10_longSequence 192 = .ok (.invokevirtual 280, 3) := by decide +kernel
theorem dX10_longSequence_195 : decode cX10_longSequence 195 = .ok (.goto 9, 3) := by decide +kernel
theorem dX10_longSequence_198 : decode cX10_longSequence 198 = .ok (.aload_n 0, 1) := by decide +kernel
theorem dX10_longSequence_199 : decode cX10_longSequence 199 = .ok (.iload_n 1, 1) := by decide +kernel
theorem dX10_longSequence_200 : decode cX10_longSequence 200 = .ok (.iload_n 2, 1) := by decide +kernel
theorem dX10_longSequence_201 : decode cX10_longSequence 201 = .ok (.invokevirtual 283, 3) := by decide +kernel
theorem dX10_longSequence_204 : decode cX10_longSequence 204 = .ok (.aload_n 0, 1) := by decide +kernel
theorem dX10_longSequence_205 : decode cX10_longSequence 205 = .ok (.getfield 116, 3) := by decide +kernel
theorem dX10_longSequence_208 : decode cX10_longSequence 208 = .ok (.iload_n 1, 1) := by decide +kernel
theorem dX10_longSequence_209 : decode cX10_longSequence 209 = .ok (.iconst 0, 1) := by decide +kernel
theorem dX10_longSequence_210 : decode cX10_longSequence 210 = .ok (.bastore, 1) := by decide +kernel
theorem dX10_longSequence_211 : decode cX10_longSequence 211 = .ok (.return_, 1) := by decide +kernel
theorem dX10_question_0 : decode cX10_question 0 = .ok (.aload_n 0, 1) := by decide +kernel
theorem dX10_question_1 : decode cX10_question 1 = .ok (.getfield 107, 3) := by decide +kernel
theorem dX10_question_4 : decode cX10_question 4 = .ok (.iconst 4, 1) := by decide +kernel
theorem dX10_question_5 : decode cX10_question 5 = .ok (.iload_n 1, 1) := by decide +kernel
theorem dX10_question_6 : decode cX10_question 6 = .ok (.imul, 1) := by decide +kernel
theorem dX10_question_7 : decode cX10_question 7 = .ok (.iaload, 1) := by decide +kernel
theorem dX10_question_8 : decode cX10_question 8 = .ok (.istore_n 3, 1) := by decide +kernel
theorem dX10_question_9 : decode cX10_question 9 = .ok (.iload_n 2, 1) := by decide +kernel
theorem dX10_question_10 : decode cX10_question 10 = .ok (.bipush 104, 2) := by decide +kernel
theorem dX10_question_12 : decode cX10_question 12 = .ok (.if_icmp .eq 10, 3) := by decide +kernel
theorem dX10_question_15 : decode cX10_question 15 = .ok (.iload_n 2, 1) := by decide +kernel
theorem dX10_question_16 : decode cX10_question 16 = .ok (.bipush 108, 2) := by decide +kernel
theorem dX10_question_18 : decode cX10_question 18 = .ok (.if_icmp .eq 4, 3) := by decide +kernel
theorem dX10_question_21 : decode cX10_question 21 = .ok (.return_, 1) := by decide +kernel
theorem dX10_question_22 : decode cX10_question 22 = .ok (.iload_n 3, 1) := by decide +kernel
theorem dX10_question_23 : decode cX10_question 23 = .ok (.bipush 7, 2) := by decide +kernel
theorem dX10_question_25 : decode cX10_question 25 = .ok (.if_icmp .ne 23, 3) := by decide +kernel
theorem dX10_question_28 : decode cX10_question 28 = .ok (.aload_n 0, 1) := by decide +kernel
theorem dX10_question_29 : decode cX10_question 29 = .ok (.getfield 98, 3) := by decide +kernel
theorem dX10_question_32 : decode cX10_question 32 = .ok (.iload_n 1, 1) := by decide +kernel
theorem dX10_question_33 : decode cX10_question 33 = .ok (.iload_n 2, 1) := by decide +kernel
theorem dX10_question_34 : decode cX10_question 34 = .ok (.bipush 104, 2) := by decide +kernel
theorem dX10_question_36 : decode cX10_question 36 = .ok (.if_icmp .ne 7, 3) := by decide +kernel
theorem dX10_question_39 : decode cX10_question 39 = .ok (.iconst 1, 1) := by decide +kernel
theorem dX10_question_40 : decode cX10_question 40 = .ok (.goto 4, 3) := by decide +kernel
theorem dX10_question_43 : decode cX10_question 43 = .ok (.iconst 0, 1) := by decide +kernel
theorem dX10_question_44 : decode cX10_question 44 = .ok (.bastore, 1) := by decide +kernel
theorem dX10_question_45 : decode cX10_question 45 = .ok (.goto 113, 3) := by decide +kernel
theorem dX10_question_48 : decode cX10_question 48 = .ok (.iload_n 3, 1) := by decide +kernel
theorem dX10_question_49 : decode cX10_question 49 = .ok (.bipush 25, 2) := by decide +kernel
theorem dX10_question_51 : decode cX10_question 51 = .ok (.if_icmp .ne 23, 3) := by decide +kernel
theorem dX10_question_54 : decode cX10_question 54 = .ok (.aload_n 0, 1) := by decide +kernel
theorem dX10_question_55 : decode cX10_question 55 = .ok (.getfield 101, 3) := by decide +kernel
theorem dX10_question_58 : decode cX10_question 58 = .ok (.iload_n 1, 1) := by decide +kernel
theorem dX10_question_59 : decode cX10_question 59 = .ok (.iload_n 2, 1) := by decide +kernel
theorem dX10_question_60 : decode cX10_question 60 = .ok (.bipush 108, 2) := by decide +kernel
theorem dX10_question_62 : decode cX10_question 62 = .ok (.if_icmp .ne 7, 3) := by decide +kernel
theorem dX10_question_65 : decode cX10_question 65 = .ok (.iconst 1, 1) := by decide +kernel
theorem dX10_question_66 : decode cX10_question 66 = .ok (.goto 4, 3) := by decide +kernel
theorem dX10_question_69 : decode cX10_question 69 = .ok (.iconst 0, 1) := by decide +kernel
theorem dX10_question_70 : decode cX10_question 70 = .ok (.bastore, 1) := by decide +kernel
theorem dX10_question_71 : decode cX10_question 71 = .ok (.goto 87, 3) := by decide +kernel
theorem dX10_question_74 : decode cX10_question 74 = .ok (.iload_n 3, 1) := by decide +kernel
theorem dX10_question_75 : decode cX10_question 75 = .ok (.bipush 47, 2) := by decide +kernel
theorem dX10_question_77 : decode cX10_question 77 = .ok (.if_icmp .ne 81, 3) := by decide +kernel
theorem dX10_question_80 : decode cX10_question 80 = .ok (.aload_n 0, 1) := by decide +kernel
theorem dX10_question_81 : decode cX10_question 81 = .ok (.getfield 65, 3) := by decide +kernel
theorem dX10_question_84 : decode cX10_question 84 = .ok (.iload_n 1, 1) := by decide +kernel
theorem dX10_question_85 : decode cX10_question 85 = .ok (.baload, 1) := by decide +kernel
theorem dX10_question_86 : decode cX10_question 86 = .ok (.iload_n 2, 1) := by decide +kernel
theorem dX10_question_87 : decode cX10_question 87 = .ok (.bipush 104, 2) := by decide +kernel
theorem dX10_question_89 : decode cX10_question 89 = .ok (.if_icmp .ne 7, 3) := by decide +kernel
theorem dX10_question_92 : decode cX10_question 92 = .ok (.iconst 1, 1) := by decide +kernel
theorem dX10_question_93 : decode cX10_question 93 = .ok (.goto 4, 3) := by decide +kernel
theorem dX10_question_96 : decode cX10_question 96 = .ok (.iconst 0, 1) := by decide +kernel
theorem dX10_question_97 : decode cX10_question 97 = .ok (.if_icmp .eq 61, 3) := by decide +kernel
theorem dX10_question_100 : decode cX10_question 100 = .ok (.aload_n 0, 1) := by decide +kernel
theorem dX10_question_101 : decode cX10_question 101 = .ok (.getfield 65, 3) := by decide +kernel
theorem dX10_question_104 : decode cX10_question 104 = .ok (.iload_n 1, 1) := by decide +kernel
theorem dX10_question_105 : decode cX10_question 105 = .ok (.iload_n 2, 1) := by decide +kernel
theorem dX10_question_106 : decode cX10_question 106 = .ok (.bipush 104, 2) := by decide +kernel
theorem dX10_question_108 : decode cX10_question 108 = .ok (.if_icmp .ne 7, 3) := by decide +kernel
theorem dX10_question_111 : decode cX10_question 111 = .ok (.iconst 1, 1) := by decide +kernel
theorem dX10_question_112 : decode cX10_question 112 = .ok (.goto 4, 3) := by decide +kernel
theorem dX10_question_115 : decode cX10_question 115 = .ok (.iconst 0, 1) := by decide +kernel
theorem dX10_question_116 : decode cX10_question 116 = .ok (.bastore, 1) := by decide +kernel
theorem dX10_question_117 : decode cX10_question 117 = .ok (.iconst 0, 1) := by decide +kernel
theorem dX10_question_118 : decode cX10_question 118 = .ok (.istore 4, 2) := by decide +kernel
theorem dX10_question_120 : decode cX10_question 120 = .ok (.iload 4, 2) := by decide +kernel
theorem dX10_question_122 : decode cX10_question 122 = .ok (.sipush 640, 3) := by decide +kernel
theorem dX10_question_125 : decode cX10_question 125 = .ok (.if_icmp .ge 33, 3) := by decide +kernel
theorem dX10_question_128 : decode cX10_question 128 = .ok (.aload_n 0, 1) := by decide +kernel
theorem dX10_question_129 : decode cX10_question 129 = .ok (.getfield 65, 3) := by decide +kernel
theorem dX10_question_132 : decode cX10_question 132 = .ok (.iload_n 1, 1) := by decide +kernel
theorem dX10_question_133 : decode cX10_question 133 = .ok (.baload, 1) := by decide +kernel
theorem dX10_question_134 : decode cX10_question 134 = .ok (.ifCond .eq 24, 3) := by decide +kernel
theorem dX10_question_137 : decode cX10_question 137 = .ok (.aload_n 0, 1) := by decide +kernel
theorem dX10_question_138 : decode cX10_question 138 = .ok (.iload_n 1, 1) := by decide +kernel
theorem dX10_question_139 : decode cX10_question 139 = .ok (.iconst 1, 1) := by decide +kernel
theorem dX10_question_140 : decode cX10_question 140 = .ok (.iconst 0, 1) := by decide +kernel
theorem dX10_question_141 : decode cX10_question 141 = .ok (.iconst 0, 1) := by decide +kernel
theorem dX10_question_142 : decode cX10_question 142 = .ok (.invokestatic 180, 3) := by decide +kernel
theorem dX10_question_145 : decode cX10_question 145 = .ok (.iload 4, 2) := by decide +kernel
theorem dX10_question_147 : decode cX10_question 147 = .ok (.iadd, 1) := by decide +kernel
theorem dX10_question_148 : decode cX10_question 148 = .ok (.iconst 0, 1) := by decide +kernel
theorem dX10_question_149 : decode cX10_question 149 = .ok (.invokevirtual 184, 3) := by decide +kernel
theorem dX10_question_152 : decode cX10_question 152 = .ok (.iinc 4 1, 3) := by decide +kernel
theorem dX10_question_155 : decode cX10_question 155 = .ok (.goto (-35), 3) := by decide +kernel
theorem dX10_question_158 : decode cX10_question 158 = .ok (.return_, 1) := by decide +kernel
theorem dX10_erase_0 : decode cX10_erase 0 = .ok (.iload_n 2, 1) := by decide +kernel
theorem dX10_erase_1 : decode cX10_erase 1 = .ok (.istore 6, 2) := by decide +kernel
theorem dX10_erase_3 : decode cX10_erase 3 = .ok (.iload 6, 2) := by decide +kernel
theorem dX10_erase_5 : decode cX10_erase 5 = .ok (.iload 4, 2) := by decide +kernel
theorem dX10_erase_7 : decode cX10_erase 7 = .ok (.if_icmp .gt 74, 3) := by decide +kernel
theorem dX10_erase_10 : decode cX10_erase 10 = .ok (.iconst 0, 1) := by decide +kernel
theorem dX10_erase_11 : decode cX10_erase 11 = .ok (.istore 7, 2) := by decide +kernel
theorem dX10_erase_13 : decode cX10_erase 13 = .ok (.iload 7, 2) := by decide +kernel
theorem dX10_erase_15 : decode cX10_erase 15 = .ok (.aload_n 0, 1) := by decide +kernel
theorem dX10_erase_16 : decode cX10_erase 16 = .ok (.getfield 53, 3) := by decide +kernel
theorem dX10_erase_19 : decode cX10_erase 19 = .ok (.iload_n 1, 1) := by decide +kernel
theorem dX10_erase_20 : decode cX10_erase 20 = .ok (.iaload, 1) := by decide +kernel
theorem dX10_erase_21 : decode cX10_erase 21 = .ok (.if_icmp .ge 54, 3) := by decide +kernel
theorem dX10_erase_24 : decode cX10_erase 24 = .ok (.iload 6, 2) := by decide +kernel
theorem dX10_erase_26 : decode cX10_erase 26 = .ok (.iload_n 2, 1) := by decide +kernel
theorem dX10_erase_27 : decode cX10_erase 27 = .ok (.if_icmp .gt 9, 3) := by decide +kernel
theorem dX10_erase_30 : decode cX10_erase 30 = .ok (.iload 7, 2) := by decide +kernel
theorem dX10_erase_32 : decode cX10_erase 32 = .ok (.iload_n 3, 1) := by decide +kernel
theorem dX10_erase_33 : decode cX10_erase 33 = .ok (.if_icmp .lt 36, 3) := by decide +kernel
theorem dX10_erase_36 : decode cX10_erase 36 = .ok (.iload 6, 2) := by decide +kernel
theorem dX10_erase_38 : decode cX10_erase 38 = .ok (.iload 4, 2) := by decide +kernel
theorem dX10_erase_40 : decode cX10_erase 40 = .ok (.if_icmp .lt 10, 3) := by decide +kernel
theorem dX10_erase_43 : decode cX10_erase 43 = .ok (.iload 7, 2) := by decide +kernel
theorem dX10_erase_45 : decode cX10_erase 45 = .ok (.iload 5, 2) := by decide +kernel
theorem dX10_erase_47 : decode cX10_erase 47 = .ok (.if_icmp .gt 22, 3) := by decide +kernel
theorem dX10_erase_50 : decode cX10_erase 50 = .ok (.aload_n 0, 1) := by decide +kernel
theorem dX10_erase_51 : decode cX10_erase 51 = .ok (.aload_n 0, 1) := by decide +kernel
theorem dX10_erase_52 : decode cX10_erase 52 = .ok (.iload_n 1, 1) := by decide +kernel
theorem dX10_erase_53 : decode cX10_erase 53 = .ok (.iload 6, 2) := by decide +kernel
theorem dX10_erase_55 : decode cX10_erase 55 = .ok (.iload 7, 2) := by decide +kernel
theorem dX10_erase_57 : decode cX10_erase 57 = .ok (.invokevirtual 231, 3) := by decide +kernel
theorem dX10_erase_60 : decode cX10_erase 60 = .ok (.aload_n 0, 1) := by decide +kernel
theorem dX10_erase_61 : decode cX10_erase 61 = .ok (.getfield 74, 3) := by decide +kernel
theorem dX10_erase_64 : decode cX10_erase 64 = .ok (.iload_n 1, 1) := by decide +kernel
theorem dX10_erase_65 : decode cX10_erase 65 = .ok (.iaload, 1) := by decide +kernel
theorem dX10_erase_66 : decode cX10_erase 66 = .ok (.invokevirtual 184, 3) := by decide +kernel
theorem dX10_erase_69 : decode cX10_erase 69 = .ok (.iinc 7 1, 3) := by decide +kernel
theorem dX10_erase_72 : decode cX10_erase 72 = .ok (.goto (-59), 3) := by decide +kernel
theorem dX10_erase_75 : decode cX10_erase 75 = .ok (.iinc 6 1, 3) := by decide +kernel
theorem dX10_erase_78 : decode cX10_erase 78 = .ok (.goto (-75), 3) := by decide +kernel
theorem dX10_erase_81 : decode cX10_erase 81 = .ok (.aload_n 0, 1) := by decide +kernel
theorem dX10_erase_82 : decode cX10_erase 82 = .ok (.getfield 92, 3) := by decide +kernel
theorem dX10_erase_85 : decode cX10_erase 85 = .ok (.iload_n 1, 1) := by decide +kernel
theorem dX10_erase_86 : decode cX10_erase 86 = .ok (.iconst 0, 1) := by decide +kernel
theorem dX10_erase_87 : decode cX10_erase 87 = .ok (.bastore, 1) := by decide +kernel
theorem dX10_erase_88 : decode cX10_erase 88 = .ok (.return_, 1) := by decide +kernel
theorem dX10_endsWait_0 : decode cX10_endsWait 0 = .ok (.iload_n 0, 1) := by decide +kernel
theorem dX10_endsWait_1 : decode cX10_endsWait 1 = .ok (.bipush 64, 2) := by decide +kernel
theorem dX10_endsWait_3 : decode cX10_endsWait 3 = .ok (.if_icmp .lt 9, 3) := by decide +kernel
theorem dX10_endsWait_6 : decode cX10_endsWait 6 = .ok (.iload_n 0, 1) := by decide +kernel
theorem dX10_endsWait_7 : decode cX10_endsWait 7 = .ok (.bipush 68, 2) := by decide +kernel
theorem dX10_endsWait_9 : decode cX10_endsWait 9 = .ok (.if_icmp .le 69, 3) := by decide +kernel
theorem dX10_endsWait_12 : decode cX10_endsWait 12 = .ok (.iload_n 0, 1) := by decide +kernel
theorem dX10_endsWait_13 : decode cX10_endsWait 13 = .ok (.bipush 71, 2) := by decide +kernel
theorem dX10_endsWait_15 : decode cX10_endsWait 15 = .ok (.if_icmp .eq 63, 3) := by decide +kernel
theorem dX10_endsWait_18 : decode cX10_endsWait 18 = .ok (.iload_n 0, 1) := by decide +kernel
theorem dX10_endsWait_19 : decode cX10_endsWait 19 = .ok (.bipush 72, 2) := by decide +kernel
theorem dX10_endsWait_21 : decode cX10_endsWait 21 = .ok (.if_icmp .eq 57, 3) := by decide +kernel
theorem dX10_endsWait_24 : decode cX10_endsWait 24 = .ok (.iload_n 0, 1) := by decide +kernel
theorem dX10_endsWait_25 : decode cX10_endsWait 25 = .ok (.bipush 74, 2) := by decide +kernel
theorem dX10_endsWait_27 : decode cX10_endsWait 27 = .ok (.if_icmp .lt 9, 3) := by decide +kernel
theorem dX10_endsWait_30 : decode cX10_endsWait 30 = .ok (.iload_n 0, 1) := by decide +kernel
theorem dX10_endsWait_31 : decode cX10_endsWait 31 = .ok (.bipush 77, 2) := by decide +kernel
theorem dX10_endsWait_33 : decode cX10_endsWait 33 = .ok (.if_icmp .le 45, 3) := by decide +kernel
theorem dX10_endsWait_36 : decode cX10_endsWait 36 = .ok (.iload_n 0, 1) := by decide +kernel
theorem dX10_endsWait_37 : decode cX10_endsWait 37 = .ok (.bipush 80, 2) := by decide +kernel
theorem dX10_endsWait_39 : decode cX10_endsWait 39 = .ok (.if_icmp .eq 39, 3) := by decide +kernel
theorem dX10_endsWait_42 : decode cX10_endsWait 42 = .ok (.iload_n 0, 1) := by decide +kernel
theorem dX10_endsWait_43 : decode cX10_endsWait 43 = .ok (.bipush 83, 2) := by decide +kernel
theorem dX10_endsWait_45 : decode cX10_endsWait 45 = .ok (.if_icmp .eq 33, 3) := by decide +kernel
theorem dX10_endsWait_48 : decode cX10_endsWait 48 = .ok (.iload_n 0, 1) := by decide +kernel
theorem dX10_endsWait_49 : decode cX10_endsWait 49 = .ok (.bipush 84, 2) := by decide +kernel
theorem dX10_endsWait_51 : decode cX10_endsWait 51 = .ok (.if_icmp .eq 27, 3) := by decide +kernel
theorem dX10_endsWait_54 : decode cX10_endsWait 54 = .ok (.iload_n 0, 1) := by decide +kernel
theorem dX10_endsWait_55 : decode cX10_endsWait 55 = .ok (.bipush 88, 2) := by decide +kernel
theorem dX10_endsWait_57 : decode cX10_endsWait 57 = .ok (.if_icmp .eq 21, 3) := by decide +kernel
theorem dX10_endsWait_60 : decode cX10_endsWait 60 = .ok (.iload_n 0, 1) := by decide +kernel
theorem dX10_endsWait_61 : decode cX10_endsWait 61 = .ok (.bipush 100, 2) := by decide +kernel
theorem dX10_endsWait_63 : decode cX10_endsWait 63 = .ok (.if_icmp .eq 15, 3) := by decide +kernel
theorem dX10_endsWait_66 : decode cX10_endsWait 66 = .ok (.iload_n 0, 1) := by decide +kernel
theorem dX10_endsWait_67 : decode cX10_endsWait 67 = .ok (.bipush 102, 2) := by decide +kernel
theorem dX10_endsWait_69 : decode cX10_endsWait 69 = .ok (.if_icmp .eq 9, 3) := by decide +kernel
theorem dX10_endsWait_72 : decode cX10_endsWait 72 = .ok (.iload_n 0, 1) := by decide +kernel
theorem dX10_endsWait_73 : decode cX10_endsWait 73 = .ok (.bipush 114, 2) := by decide +kernel
theorem dX10_endsWait_75 : decode cX10_endsWait 75 = .ok (.if_icmp .ne 7, 3) := by decide +kernel
theorem dX10_endsWait_78 : decode cX10_endsWait 78 = .ok (.iconst 1, 1) := by decide +kernel
theorem dX10_endsWait_79 : decode cX10_endsWait 79 = .ok (.goto 4, 3) := by decide +kernel
theorem dX10_endsWait_82 : decode cX10_endsWait 82 = .ok (.iconst 0, 1) := by decide +kernel
theorem dX10_endsWait_83 : decode cX10_endsWait 83 = .ok (.ireturn, 1) := by decide +kernel
theorem dX10_act_0 : decode cX10_act 0 = .ok (.aload_n 0, 1) := by decide +kernel
theorem dX10_act_1 : decode cX10_act 1 = .ok (.getfield 92, 3) := by decide +kernel
theorem dX10_act_4 : decode cX10_act 4 = .ok (.iload_n 1, 1) := by decide +kernel
theorem dX10_act_5 : decode cX10_act 5 = .ok (.aload_n 0, 1) := by decide +kernel
theorem dX10_act_6 : decode cX10_act 6 = .ok (.getfield 92, 3) := by decide +kernel
theorem dX10_act_9 : decode cX10_act 9 = .ok (.iload_n 1, 1) := by decide +kernel
theorem dX10_act_10 : decode cX10_act 10 = .ok (.baload, 1) := by decide +kernel
theorem dX10_act_11 : decode cX10_act 11 = .ok (.ifCond .eq 14, 3) := by decide +kernel
theorem dX10_act_14 : decode cX10_act 14 = .ok (.iload_n 2, 1) := by decide +kernel
theorem dX10_act_15 : decode cX10_act 15 = .ok (.invokestatic 286, 3) := by decide +kernel
theorem dX10_act_18 : decode cX10_act 18 = .ok (.ifCond .ne 7, 3) := by decide +kernel
theorem dX10_act_21 : decode cX10_act 21 = .ok (.iconst 1, 1) := by decide +kernel
theorem dX10_act_22 : decode cX10_act 22 = .ok (.goto 4, 3) := by decide +kernel
theorem dX10_act_25 : decode cX10_act 25 = .ok (.iconst 0, 1) := by decide +kernel
theorem dX10_act_26 : decode cX10_act 26 = .ok (.bastore, 1) := by decide +kernel
theorem dX10_act_27 : decode cX10_act 27 = .ok (.aload_n 0, 1) := by decide +kernel
theorem dX10_act_28 : decode cX10_act 28 = .ok (.getfield 107, 3) := by decide +kernel
theorem dX10_act_31 : decode cX10_act 31 = .ok (.iconst 4, 1) := by decide +kernel
theorem dX10_act_32 : decode cX10_act 32 = .ok (.iload_n 1, 1) := by decide +kernel
theorem dX10_act_33 : decode cX10_act 33 = .ok (.imul, 1) := by decide +kernel
theorem dX10_act_34 : decode cX10_act 34 = .ok (.iaload, 1) := by decide +kernel
theorem dX10_act_35 : decode cX10_act 35 = .ok (.istore_n 3, 1) := by decide +kernel
theorem dX10_act_36 : decode cX10_act 36 = .ok (.iload_n 3, 1) := by decide +kernel
theorem dX10_act_37 : decode cX10_act 37 = .ok (.ifCond .ne 7, 3) := by decide +kernel
theorem dX10_act_40 : decode cX10_act 40 = .ok (.iconst 1, 1) := by decide +kernel
theorem dX10_act_41 : decode cX10_act 41 = .ok (.goto 4, 3) := by decide +kernel
theorem dX10_act_44 : decode cX10_act 44 = .ok (.iload_n 3, 1) := by decide +kernel
theorem dX10_act_45 : decode cX10_act 45 = .ok (.istore 4, 2) := by decide +kernel
theorem dX10_act_47 : decode cX10_act 47 = .ok (.aload_n 0, 1) := by decide +kernel
theorem dX10_act_48 : decode cX10_act 48 = .ok (.getfield 107, 3) := by decide +kernel
theorem dX10_act_51 : decode cX10_act 51 = .ok (.iconst 4, 1) := by decide +kernel
theorem dX10_act_52 : decode cX10_act 52 = .ok (.iload_n 1, 1) := by decide +kernel
theorem dX10_act_53 : decode cX10_act 53 = .ok (.imul, 1) := by decide +kernel
theorem dX10_act_54 : decode cX10_act 54 = .ok (.iconst 1, 1) := by decide +kernel
theorem dX10_act_55 : decode cX10_act 55 = .ok (.iadd, 1) := by decide +kernel
theorem dX10_act_56 : decode cX10_act 56 = .ok (.iaload, 1) := by decide +kernel
theorem dX10_act_57 : decode cX10_act 57 = .ok (.istore 5, 2) := by decide +kernel
theorem dX10_act_59 : decode cX10_act 59 = .ok (.aload_n 0, 1) := by decide +kernel
theorem dX10_act_60 : decode cX10_act 60 = .ok (.getfield 68, 3) := by decide +kernel
theorem dX10_act_63 : decode cX10_act 63 = .ok (.iload_n 1, 1) := by decide +kernel
theorem dX10_act_64 : decode cX10_act 64 = .ok (.iaload, 1) := by decide +kernel
theorem dX10_act_65 : decode cX10_act 65 = .ok (.istore 6, 2) := by decide +kernel
theorem dX10_act_67 : decode cX10_act 67 = .ok (.aload_n 0, 1) := by decide +kernel
theorem dX10_act_68 : decode cX10_act 68 = .ok (.getfield 71, 3) := by decide +kernel
theorem dX10_act_71 : decode cX10_act 71 = .ok (.iload_n 1, 1) := by decide +kernel
theorem dX10_act_72 : decode cX10_act 72 = .ok (.iaload, 1) := by decide +kernel
theorem dX10_act_73 : decode cX10_act 73 = .ok (.istore 7, 2) := by decide +kernel
theorem dX10_act_75 : decode cX10_act 75 = .ok (.iload_n 2, 1) := by decide +kernel
theorem dX10_act_76 : decode cX10_act 76 = .ok (.bipush 65, 2) := by decide +kernel
theorem dX10_act_78 : decode cX10_act 78 = .ok (.if_icmp .ne 18, 3) := by decide +kernel
theorem dX10_act_81 : decode cX10_act 81 = .ok (.aload_n 0, 1) := by decide +kernel
theorem dX10_act_82 : decode cX10_act 82 = .ok (.iload_n 1, 1) := by decide +kernel
theorem dX10_act_83 : decode cX10_act 83 = .ok (.iload 6, 2) := by decide +kernel
theorem dX10_act_85 : decode cX10_act 85 = .ok (.iload 4, 2) := by decide +kernel
theorem dX10_act_87 : decode cX10_act 87 = .ok (.isub, 1) := by decide +kernel
theorem dX10_act_88 : decode cX10_act 88 = .ok (.iload 7, 2) := by decide +kernel
theorem dX10_act_90 : decode cX10_act 90 = .ok (.invokevirtual 261, 3) := by decide +kernel
theorem dX10_act_93 : decode cX10_act 93 = .ok (.goto 499, 3) := by decide +kernel
theorem dX10_act_96 : decode cX10_act 96 = .ok (.iload_n 2, 1) := by decide +kernel
theorem dX10_act_97 : decode cX10_act 97 = .ok (.bipush 66, 2) := by decide +kernel
theorem dX10_act_99 : decode cX10_act 99 = .ok (.if_icmp .ne 18, 3) := by decide +kernel
theorem dX10_act_102 : decode cX10_act 102 = .ok (.aload_n 0, 1) := by decide +kernel
theorem dX10_act_103 : decode cX10_act 103 = .ok (.iload_n 1, 1) := by decide +kernel
theorem dX10_act_104 : decode cX10_act 104 = .ok (.iload 6, 2) := by decide +kernel
theorem dX10_act_106 : decode cX10_act 106 = .ok (.iload 4, 2) := by decide +kernel
theorem dX10_act_108 : decode cX10_act 108 = .ok (.iadd, 1) := by decide +kernel
theorem dX10_act_109 : decode cX10_act 109 = .ok (.iload 7, 2) := by decide +kernel
theorem dX10_act_111 : decode cX10_act 111 = .ok (.invokevirtual 261, 3) := by decide +kernel
theorem dX10_act_114 : decode cX10_act 114 = .ok (.goto 478, 3) := by decide +kernel
theorem dX10_act_117 : decode cX10_act 117 = .ok (.iload_n 2, 1) := by decide +kernel
theorem dX10_act_118 : decode cX10_act 118 = .ok (.bipush 67, 2) := by decide +kernel
theorem dX10_act_120 : decode cX10_act 120 = .ok (.if_icmp .ne 18, 3) := by decide +kernel
theorem dX10_act_123 : decode cX10_act 123 = .ok (.aload_n 0, 1) := by decide +kernel
theorem dX10_act_124 : decode cX10_act 124 = .ok (.iload_n 1, 1) := by decide +kernel
theorem dX10_act_125 : decode cX10_act 125 = .ok (.iload 6, 2) := by decide +kernel
theorem dX10_act_127 : decode cX10_act 127 = .ok (.iload 7, 2) := by decide +kernel
theorem dX10_act_129 : decode cX10_act 129 = .ok (.iload 4, 2) := by decide +kernel
theorem dX10_act_131 : decode cX10_act 131 = .ok (.iadd, 1) := by decide +kernel
theorem dX10_act_132 : decode cX10_act 132 = .ok (.invokevirtual 261, 3) := by decide +kernel
theorem dX10_act_135 : decode cX10_act 135 = .ok (.goto 457, 3) := by decide +kernel
theorem dX10_act_138 : decode cX10_act 138 = .ok (.iload_n 2, 1) := by decide +kernel
theorem dX10_act_139 : decode cX10_act 139 = .ok (.bipush 68, 2) := by decide +kernel
theorem dX10_act_141 : decode cX10_act 141 = .ok (.if_icmp .ne 18, 3) := by decide +kernel
theorem dX10_act_144 : decode cX10_act 144 = .ok (.aload_n 0, 1) := by decide +kernel
theorem dX10_act_145 : decode cX10_act 145 = .ok (.iload_n 1, 1) := by decide +kernel
theorem dX10_act_146 : decode cX10_act 146 = .ok (.iload 6, 2) := by decide +kernel
theorem dX10_act_148 : decode cX10_act 148 = .ok (.iload 7, 2) := by decide +kernel
theorem dX10_act_150 : decode cX10_act 150 = .ok (.iload 4, 2) := by decide +kernel
theorem dX10_act_152 : decode cX10_act 152 = .ok (.isub, 1) := by decide +kernel
theorem dX10_act_153 : decode cX10_act 153 = .ok (.invokevirtual 261, 3) := by decide +kernel
theorem dX10_act_156 : decode cX10_act 156 = .ok (.goto 436, 3) := by decide +kernel
theorem dX10_act_159 : decode cX10_act 159 = .ok (.iload_n 2, 1) := by decide +kernel
theorem dX10_act_160 : decode cX10_act 160 = .ok (.bipush 71, 2) := by decide +kernel
theorem dX10_act_162 : decode cX10_act 162 = .ok (.if_icmp .ne 17, 3) := by decide +kernel
theorem dX10_act_165 : decode cX10_act 165 = .ok (.aload_n 0, 1) := by decide +kernel
theorem dX10_act_166 : decode cX10_act 166 = .ok (.iload_n 1, 1) := by decide +kernel
theorem dX10_act_167 : decode cX10_act 167 = .ok (.iload 6, 2) := by decide +kernel
theorem dX10_act_169 : decode cX10_act 169 = .ok (.iload 4, 2) := by decide +kernel
theorem dX10_act_171 : decode cX10_act 171 = .ok (.iconst 1, 1) := by decide +kernel
theorem dX10_act_172 : decode cX10_act 172 = .ok (.isub, 1) := by decide +kernel
theorem dX10_act_173 : decode cX10_act 173 = .ok (.invokevirtual 261, 3) := by decide +kernel
theorem dX10_act_176 : decode cX10_act 176 = .ok (.goto 416, 3) := by decide +kernel
theorem dX10_act_179 : decode cX10_act 179 = .ok (.iload_n 2, 1) := by decide +kernel
theorem dX10_act_180 : decode cX10_act 180 = .ok (.bipush 100, 2) := by decide +kernel
theorem dX10_act_182 : decode cX10_act 182 = .ok (.if_icmp .ne 17, 3) := by decide +kernel
theorem dX10_act_185 : decode cX10_act 185 = .ok (.aload_n 0, 1) := by decide +kernel
theorem dX10_act_186 : decode cX10_act 186 = .ok (.iload_n 1, 1) := by decide +kernel
theorem dX10_act_187 : decode cX10_act 187 = .ok (.iload 4, 2) := by decide +kernel
theorem dX10_act_189 : decode cX10_act 189 = .ok (.iconst 1, 1) := by decide +kernel
theorem dX10_act_190 : decode cX10_act 190 = .ok (.isub, 1) := by decide +kernel
theorem dX10_act_191 : decode cX10_act 191 = .ok (.iload 7, 2) := by decide +kernel
theorem dX10_act_193 : decode cX10_act 193 = .ok (.invokevirtual 261, 3) := by decide +kernel
theorem dX10_act_196 : decode cX10_act 196 = .ok (.goto 396, 3) := by decide +kernel
theorem dX10_act_199 : decode cX10_act 199 = .ok (.iload_n 2, 1) := by decide +kernel
theorem dX10_act_200 : decode cX10_act 200 = .ok (.bipush 72, 2) := by decide +kernel
theorem dX10_act_202 : decode cX10_act 202 = .ok (.if_icmp .eq 9, 3) := by decide +kernel
theorem dX10_act_205 : decode cX10_act 205 = .ok (.iload_n 2, 1) := by decide +kernel
theorem dX10_act_206 : decode cX10_act 206 = .ok (.bipush 102, 2) := by decide +kernel
theorem dX10_act_208 : decode cX10_act 208 = .ok (.if_icmp .ne 28, 3) := by decide +kernel
theorem dX10_act_211 : decode cX10_act 211 = .ok (.aload_n 0, 1) := by decide +kernel
theorem dX10_act_212 : decode cX10_act 212 = .ok (.iload_n 1, 1) := by decide +kernel
theorem dX10_act_213 : decode cX10_act 213 = .ok (.iload 4, 2) := by decide +kernel
theorem dX10_act_215 : decode cX10_act 215 = .ok (.iconst 1, 1) := by decide +kernel
theorem dX10_act_216 : decode cX10_act 216 = .ok (.isub, 1) := by decide +kernel
theorem dX10_act_217 : decode cX10_act 217 = .ok (.iload 5, 2) := by decide +kernel
theorem dX10_act_219 : decode cX10_act 219 = .ok (.ifCond .ne 7, 3) := by decide +kernel
theorem dX10_act_222 : decode cX10_act 222 = .ok (.iconst 0, 1) := by decide +kernel
theorem dX10_act_223 : decode cX10_act 223 = .ok (.goto 7, 3) := by decide +kernel
theorem dX10_act_226 : decode cX10_act 226 = .ok (.iload 5, 2) := by decide +kernel
theorem dX10_act_228 : decode cX10_act 228 = .ok (.iconst 1, 1) := by decide +kernel
theorem dX10_act_229 : decode cX10_act 229 = .ok (.isub, 1) := by decide +kernel
theorem dX10_act_230 : decode cX10_act 230 = .ok (.invokevirtual 261, 3) := by decide +kernel
theorem dX10_act_233 : decode cX10_act 233 = .ok (.goto 359, 3) := by decide +kernel
theorem dX10_act_236 : decode cX10_act 236 = .ok (.iload_n 2, 1) := by decide +kernel
theorem dX10_act_237 : decode cX10_act 237 = .ok (.bipush 74, 2) := by decide +kernel
theorem dX10_act_239 : decode cX10_act 239 = .ok (.if_icmp .ne 66, 3) := by decide +kernel
theorem dX10_act_242 : decode cX10_act 242 = .ok (.iload_n 3, 1) := by decide +kernel
theorem dX10_act_243 : decode cX10_act 243 = .ok (.iconst 3, 1) := by decide +kernel
theorem dX10_act_244 : decode cX10_act 244 = .ok (.if_icmp .ge 61, 3) := by decide +kernel
theorem dX10_act_247 : decode cX10_act 247 = .ok (.aload_n 0, 1) := by decide +kernel
theorem dX10_act_248 : decode cX10_act 248 = .ok (.iload_n 1, 1) := by decide +kernel
theorem dX10_act_249 : decode cX10_act 249 = .ok (.iload_n 3, 1) := by decide +kernel
theorem dX10_act_250 : decode cX10_act 250 = .ok (.ifCond .ne 8, 3) := by decide +kernel
theorem dX10_act_253 : decode cX10_act 253 = .ok (.iload 6, 2) := by decide +kernel
theorem dX10_act_255 : decode cX10_act 255 = .ok (.goto 4, 3) := by decide +kernel
theorem dX10_act_258 : decode cX10_act 258 = .ok (.iconst 0, 1) := by decide +kernel
theorem dX10_act_259 : decode cX10_act 259 = .ok (.iload_n 3, 1) := by decide +kernel
theorem dX10_act_260 : decode cX10_act 260 = .ok (.ifCond .ne 8, 3) := by decide +kernel
theorem dX10_act_263 : decode cX10_act 263 = .ok (.iload 7, 2) := by decide +kernel
theorem dX10_act_265 : decode cX10_act 265 = .ok (.goto 4, 3) := by decide +kernel
theorem dX10_act_268 : decode cX10_act 268 = .ok (.iconst 0, 1) := by decide +kernel
theorem dX10_act_269 : decode cX10_act 269 = .ok (.iload_n 3, 1) := by decide +kernel
theorem dX10_act_270 : decode cX10_act 270 = .ok (.iconst 1, 1) := by decide +kernel
theorem dX10_act_271 : decode cX10_act 271 = .ok (.if_icmp .ne 8, 3) := by decide +kernel
theorem dX10_act_274 : decode cX10_act 274 = .ok (.iload 6, 2) := by decide +kernel
theorem dX10_act_276 : decode cX10_act 276 = .ok (.goto 11, 3) := by decide +kernel
theorem dX10_act_279 : decode cX10_act 279 = .ok (.aload_n 0, 1) := by decide +kernel
theorem dX10_act_280 : decode cX10_act 280 = .ok (.getfield 56, 3) := by decide +kernel
theorem dX10_act_283 : decode cX10_act 283 = .ok (.iload_n 1, 1) := by decide +kernel
theorem dX10_act_284 : decode cX10_act 284 = .ok (.iaload, 1) := by decide +kernel
theorem dX10_act_285 : decode cX10_act 285 = .ok (.iconst 1, 1) := by decide +kernel
theorem dX10_act_286 : decode cX10_act 286 = .ok (.isub, 1) := by decide +kernel
theorem dX10_act_287 : decode cX10_act 287 = .ok (.iload_n 3, 1) := by decide +kernel
theorem dX10_act_288 : decode cX10_act 288 = .ok (.iconst 1, 1) := by decide +kernel
theorem dX10_act_289 : decode cX10_act 289 = .ok (.if_icmp .ne 8, 3) := by decide +kernel
theorem dX10_act_292 : decode cX10_act 292 = .ok (.iload 7, 2) := by decide +kernel
theorem dX10_act_294 : decode cX10_act 294 = .ok (.goto 5, 3) := by decide +kernel
theorem dX10_act_297 : decode cX10_act 297 = .ok (.bipush 40, 2) := by decide +kernel
theorem dX10_act_299 : decode cX10_act 299 = .ok (.invokevirtual 289, 3) := by decide +kernel
theorem dX10_act_302 : decode cX10_act 302 = .ok (.goto 290, 3) := by decide +kernel
theorem dX10_act_305 : decode cX10_act 305 = .ok (.iload_n 2, 1) := by decide +kernel
theorem dX10_act_306 : decode cX10_act 306 = .ok (.bipush 75, 2) := by decide +kernel
theorem dX10_act_308 : decode cX10_act 308 = .ok (.if_icmp .ne 42, 3) := by decide +kernel
theorem dX10_act_311 : decode cX10_act 311 = .ok (.iload_n 3, 1) := by decide +kernel
theorem dX10_act_312 : decode cX10_act 312 = .ok (.iconst 3, 1) := by decide +kernel
theorem dX10_act_313 : decode cX10_act 313 = .ok (.if_icmp .ge 37, 3) := by decide +kernel
theorem dX10_act_316 : decode cX10_act 316 = .ok (.aload_n 0, 1) := by decide +kernel
theorem dX10_act_317 : decode cX10_act 317 = .ok (.iload_n 1, 1) := by decide +kernel
theorem dX10_act_318 : decode cX10_act 318 = .ok (.iload 6, 2) := by decide +kernel
theorem dX10_act_320 : decode cX10_act 320 = .ok (.iload_n 3, 1) := by decide +kernel
theorem dX10_act_321 : decode cX10_act 321 = .ok (.ifCond .ne 8, 3) := by decide +kernel
theorem dX10_act_324 : decode cX10_act 324 = .ok (.iload 7, 2) := by decide +kernel
theorem dX10_act_326 : decode cX10_act 326 = .ok (.goto 4, 3) := by decide +kernel
theorem dX10_act_329 : decode cX10_act 329 = .ok (.iconst 0, 1) := by decide +kernel
theorem dX10_act_330 : decode cX10_act 330 = .ok (.iload 6, 2) := by decide +kernel
theorem dX10_act_332 : decode cX10_act 332 = .ok (.iload_n 3, 1) := by decide +kernel
theorem dX10_act_333 : decode cX10_act 333 = .ok (.iconst 1, 1) := by decide +kernel
theorem dX10_act_334 : decode cX10_act 334 = .ok (.if_icmp .ne 8, 3) := by decide +kernel
theorem dX10_act_337 : decode cX10_act 337 = .ok (.iload 7, 2) := by decide +kernel
theorem dX10_act_339 : decode cX10_act 339 = .ok (.goto 5, 3) := by decide +kernel
theorem dX10_act_342 : decode cX10_act 342 = .ok (.bipush 40, 2) := by decide +kernel
theorem dX10_act_344 : decode cX10_act 344 = .ok (.invokevirtual 289, 3) := by decide +kernel
theorem dX10_act_347 : decode cX10_act 347 = .ok (.goto 245, 3) := by decide +kernel
theorem dX10_act_350 : decode cX10_act 350 = .ok (.iload_n 2, 1) := by decide +kernel
theorem dX10_act_351 : decode cX10_act 351 = .ok (.bipush 88, 2) := by decide +kernel
theorem dX10_act_353 : decode cX10_act 353 = .ok (.if_icmp .ne 24, 3) := by decide +kernel
theorem dX10_act_356 : decode cX10_act 356 = .ok (.aload_n 0, 1) := by decide +kernel
theorem dX10_act_357 : decode cX10_act 357 = .ok (.iload_n 1, 1) := by decide +kernel
theorem dX10_act_358 : decode cX10_act 358 = .ok (.iload 6, 2) := by decide +kernel
theorem dX10_act_360 : decode cX10_act 360 = .ok (.iload 7, 2) := by decide +kernel
theorem dX10_act_362 : decode cX10_act 362 = .ok (.iload 6, 2) := by decide +kernel
theorem dX10_act_364 : decode cX10_act 364 = .ok (.iload 7, 2) := by decide +kernel
theorem dX10_act_366 : decode cX10_act 366 = .ok (.iload 4, 2) := by decide +kernel
theorem dX10_act_368 : decode cX10_act 368 = .ok (.iadd, 1) := by decide +kernel
theorem dX10_act_369 : decode cX10_act 369 = .ok (.iconst 1, 1) := by decide +kernel
theorem dX10_act_370 : decode cX10_act 370 = .ok (.isub, 1) := by decide +kernel
theorem dX10_act_371 : decode cX10_act 371 = .ok (.invokevirtual 289, 3) := by decide +kernel
theorem dX10_act_374 : decode cX10_act 374 = .ok (.goto 218, 3) := by decide +kernel
theorem dX10_act_377 : decode cX10_act 377 = .ok (.iload_n 2, 1) := by decide +kernel
theorem dX10_act_378 : decode cX10_act 378 = .ok (.bipush 64, 2) := by decide +kernel
theorem dX10_act_380 : decode cX10_act 380 = .ok (.if_icmp .eq 9, 3) := by decide +kernel
theorem dX10_act_383 : decode cX10_act 383 = .ok (.iload_n 2, 1) := by decide +kernel
theorem dX10_act_384 : decode cX10_act 384 = .ok (.bipush 80, 2) := by decide +kernel
theorem dX10_act_386 : decode cX10_act 386 = .ok (.if_icmp .ne 36, 3) := by decide +kernel
theorem dX10_act_389 : decode cX10_act 389 = .ok (.aload_n 0, 1) := by decide +kernel
theorem dX10_act_390 : decode cX10_act 390 = .ok (.iload_n 1, 1) := by decide +kernel
theorem dX10_act_391 : decode cX10_act 391 = .ok (.iload 6, 2) := by decide +kernel
theorem dX10_act_393 : decode cX10_act 393 = .ok (.iload 7, 2) := by decide +kernel
theorem dX10_act_395 : decode cX10_act 395 = .ok (.iload_n 2, 1) := by decide +kernel
theorem dX10_act_396 : decode cX10_act 396 = .ok (.bipush 64, 2) := by decide +kernel
theorem dX10_act_398 : decode cX10_act 398 = .ok (.if_icmp .ne 8, 3) := by decide +kernel
theorem dX10_act_401 : decode cX10_act 401 = .ok (.iload 4, 2) := by decide +kernel
theorem dX10_act_403 : decode cX10_act 403 = .ok (.goto 6, 3) := by decide +kernel
theorem dX10_act_406 : decode cX10_act 406 = .ok (.iload 4, 2) := by decide +kernel
theorem dX10_act_408 : decode cX10_act 408 = .ok (.ineg, 1) := by decide +kernel
theorem dX10_act_409 : decode cX10_act 409 = .ok (.invokevirtual 258, 3) := by decide +kernel
theorem dX10_act_412 : decode cX10_act 412 = .ok (.aload_n 0, 1) := by decide +kernel
theorem dX10_act_413 : decode cX10_act 413 = .ok (.getfield 92, 3) := by decide +kernel
theorem dX10_act_416 : decode cX10_act 416 = .ok (.iload_n 1, 1) := by decide +kernel
theorem dX10_act_417 : decode cX10_act 417 = .ok (.iconst 0, 1) := by decide +kernel
theorem dX10_act_418 : decode cX10_act 418 = .ok (.bastore, 1) := by decide +kernel
theorem dX10_act_419 : decode cX10_act 419 = .ok (.goto 173, 3) := by decide +kernel
theorem dX10_act_422 : decode cX10_act 422 = .ok (.iload_n 2, 1) := by decide +kernel
theorem dX10_act_423 : decode cX10_act 423 = .ok (.bipush 76, 2) := by decide +kernel
theorem dX10_act_425 : decode cX10_act 425 = .ok (.if_icmp .eq 9, 3) := by decide +kernel
theorem dX10_act_428 : decode cX10_act 428 = .ok (.iload_n 2, 1) := by decide +kernel
theorem dX10_act_429 : decode cX10_act 429 = .ok (.bipush 77, 2) := by decide +kernel
theorem dX10_act_431 : decode cX10_act 431 = .ok (.if_icmp .ne 24, 3) := by decide +kernel
theorem dX10_act_434 : decode cX10_act 434 = .ok (.aload_n 0, 1) := by decide +kernel
theorem dX10_act_435 : decode cX10_act 435 = .ok (.iload_n 1, 1) := by decide +kernel
theorem dX10_act_436 : decode cX10_act 436 = .ok (.iload_n 2, 1) := by decide +kernel
theorem dX10_act_437 : decode cX10_act 437 = .ok (.bipush 76, 2) := by decide +kernel
theorem dX10_act_439 : decode cX10_act 439 = .ok (.if_icmp .ne 7, 3) := by decide +kernel
theorem dX10_act_442 : decode cX10_act 442 = .ok (.iconst 1, 1) := by decide +kernel
theorem dX10_act_443 : decode cX10_act 443 = .ok (.goto 4, 3) := by decide +kernel
theorem dX10_act_446 : decode cX10_act 446 = .ok (.iconst 0, 1) := by decide +kernel
theorem dX10_act_447 : decode cX10_act 447 = .ok (.iload 4, 2) := by decide +kernel
theorem dX10_act_449 : decode cX10_act 449 = .ok (.invokevirtual 292, 3) := by decide +kernel
theorem dX10_act_452 : decode cX10_act 452 = .ok (.goto 140, 3) := by decide +kernel
theorem dX10_act_455 : decode cX10_act 455 = .ok (.iload_n 2, 1) := by decide +kernel
theorem dX10_act_456 : decode cX10_act 456 = .ok (.bipush 83, 2) := by decide +kernel
theorem dX10_act_458 : decode cX10_act 458 = .ok (.if_icmp .ne 33, 3) := by decide +kernel
theorem dX10_act_461 : decode cX10_act 461 = .ok (.aload_n 0, 1) := by decide +kernel
theorem dX10_act_462 : decode cX10_act 462 = .ok (.iload_n 1, 1) := by decide +kernel
theorem dX10_act_463 : decode cX10_act 463 = .ok (.aload_n 0, 1) := by decide +kernel
theorem dX10_act_464 : decode cX10_act 464 = .ok (.getfield 86, 3) := by decide +kernel
theorem dX10_act_467 : decode cX10_act 467 = .ok (.iload_n 1, 1) := by decide +kernel
theorem dX10_act_468 : decode cX10_act 468 = .ok (.iaload, 1) := by decide +kernel
theorem dX10_act_469 : decode cX10_act 469 = .ok (.aload_n 0, 1) := by decide +kernel
theorem dX10_act_470 : decode cX10_act 470 = .ok (.getfield 89, 3) := by decide +kernel
theorem dX10_act_473 : decode cX10_act 473 = .ok (.iload_n 1, 1) := by decide +kernel
theorem dX10_act_474 : decode cX10_act 474 = .ok (.iaload, 1) := by decide +kernel
theorem dX10_act_475 : decode cX10_act 475 = .ok (.iload 4, 2) := by decide +kernel
theorem dX10_act_477 : decode cX10_act 477 = .ok (.iconst 1, 1) := by decide +kernel
theorem dX10_act_478 : decode cX10_act 478 = .ok (.invokevirtual 247, 3) := by decide +kernel
theorem dX10_act_481 : decode cX10_act 481 = .ok (.aload_n 0, 1) := by decide +kernel
theorem dX10_act_482 : decode cX10_act 482 = .ok (.getfield 92, 3) := by decide +kernel
theorem dX10_act_485 : decode cX10_act 485 = .ok (.iload_n 1, 1) := by decide +kernel
theorem dX10_act_486 : decode cX10_act 486 = .ok (.iconst 0, 1) := by decide +kernel
theorem dX10_act_487 : decode cX10_act 487 = .ok (.bastore, 1) := by decide +kernel
theorem dX10_act_488 : decode cX10_act 488 = .ok (.goto 104, 3) := by decide +kernel
theorem dX10_act_491 : decode cX10_act 491 = .ok (.iload_n 2, 1) := by decide +kernel
theorem dX10_act_492 : decode cX10_act 492 = .ok (.bipush 84, 2) := by decide +kernel
theorem dX10_act_494 : decode cX10_act 494 = .ok (.if_icmp .ne 32, 3) := by decide +kernel
theorem dX10_act_497 : decode cX10_act 497 = .ok (.aload_n 0, 1) := by decide +kernel
theorem dX10_act_498 : decode cX10_act 498 = .ok (.iload_n 1, 1) := by decide +kernel
theorem dX10_act_499 : decode cX10_act 499 = .ok (.aload_n 0, 1) := by decide +kernel
theorem dX10_act_500 : decode cX10_act 500 = .ok (.getfield 86, 3) := by decide +kernel
theorem dX10_act_503 : decode cX10_act 503 = .ok (.iload_n 1, 1) := by decide +kernel
theorem dX10_act_504 : decode cX10_act 504 = .ok (.iaload, 1) := by decide +kernel
theorem dX10_act_505 : decode cX10_act 505 = .ok (.aload_n 0, 1) := by decide +kernel
theorem dX10_act_506 : decode cX10_act 506 = .ok (.getfield 89, 3) := by decide +kernel
theorem dX10_act_509 : decode cX10_act 509 = .ok (.iload_n 1, 1) := by decide +kernel
theorem dX10_act_510 : decode cX10_act 510 = .ok (.iaload, 1) := by decide +kernel
theorem dX10_act_511 : decode cX10_act 511 = .ok (.iload 4, 2) := by decide +kernel
theorem dX10_act_513 : decode cX10_act 513 = .ok (.invokevirtual 251, 3) := by decide +kernel
theorem dX10_act_516 : decode cX10_act 516 = .ok (.aload_n 0, 1) := by decide +kernel
theorem dX10_act_517 : decode cX10_act 517 = .ok (.getfield 92, 3) := by decide +kernel
theorem dX10_act_520 : decode cX10_act 520 = .ok (.iload_n 1, 1) := by decide +kernel
theorem dX10_act_521 : decode cX10_act 521 = .ok (.iconst 0, 1) := by decide +kernel
theorem dX10_act_522 : decode cX10_act 522 = .ok (.bastore, 1) := by decide +kernel
theorem dX10_act_523 : decode cX10_act 523 = .ok (.goto 69, 3) := by decide +kernel
theorem dX10_act_526 : decode cX10_act 526 = .ok (.iload_n 2, 1) := by decide +kernel
theorem dX10_act_527 : decode cX10_act 527 = .ok (.bipush 114, 2) := by decide +kernel
theorem dX10_act_529 : decode cX10_act 529 = .ok (.if_icmp .ne 15, 3) := by decide +kernel
theorem dX10_act_532 : decode cX10_act 532 = .ok (.aload_n 0, 1) := by decide +kernel
theorem dX10_act_533 : decode cX10_act 533 = .ok (.iload_n 1, 1) := by decide +kernel
theorem dX10_act_534 : decode cX10_act 534 = .ok (.iload 4, 2) := by decide +kernel
theorem dX10_act_536 : decode cX10_act 536 = .ok (.iload 5, 2) := by decide +kernel
theorem dX10_act_538 : decode cX10_act 538 = .ok (.invokevirtual 296, 3) := by decide +kernel
theorem dX10_act_541 : decode cX10_act 541 = .ok (.goto 51, 3) := by decide +kernel
theorem dX10_act_544 : decode cX10_act 544 = .ok (.iload_n 2, 1) := by decide +kernel
theorem dX10_act_545 : decode cX10_act 545 = .ok (.bipush 109, 2) := by decide +kernel
theorem dX10_act_547 : decode cX10_act 547 = .ok (.if_icmp .ne 11, 3) := by decide +kernel
theorem dX10_act_550 : decode cX10_act 550 = .ok (.aload_n 0, 1) := by decide +kernel
theorem dX10_act_551 : decode cX10_act 551 = .ok (.iload_n 1, 1) := by decide +kernel
theorem dX10_act_552 : decode cX10_act 552 = .ok (.invokevirtual 299, 3) := by decide +kernel
theorem dX10_act_555 : decode cX10_act 555 = .ok (.goto 37, 3) := by decide +kernel
theorem dX10_act_558 : decode cX10_act 558 = .ok (.iload_n 2, 1) := by decide +kernel
theorem dX10_act_559 : decode cX10_act 559 = .ok (.bipush 104, 2) := by decide +kernel
theorem dX10_act_561 : decode cX10_act 561 = .ok (.if_icmp .eq 9, 3) := by decide +kernel
theorem dX10_act_564 : decode cX10_act 564 = .ok (.iload_n 2, 1) := by decide +kernel
theorem dX10_act_565 : decode cX10_act 565 = .ok (.bipush 108, 2) := by decide +kernel
theorem dX10_act_567 : decode cX10_act 567 = .ok (.if_icmp .ne 25, 3) := by decide +kernel
theorem dX10_act_570 : decode cX10_act 570 = .ok (.iload_n 3, 1) := by decide +kernel
theorem dX10_act_571 : decode cX10_act 571 = .ok (.iconst 4, 1) := by decide +kernel
theorem dX10_act_572 : decode cX10_act 572 = .ok (.if_icmp .ne 20, 3) := by decide +kernel
theorem dX10_act_575 : decode cX10_act 575 = .ok (.aload_n 0, 1) := by decide +kernel
theorem dX10_act_576 : decode cX10_act 576 = .ok (.getfield 95, 3) := by decide +kernel
theorem dX10_act_579 : decode cX10_act 579 = .ok (.iload_n 1, 1) := by decide +kernel
theorem dX10_act_580 : decode cX10_act 580 = .ok (.iload_n 2, 1) := by decide +kernel
theorem dX10_act_581 : decode cX10_act 581 = .ok (.bipush 104, 2) := by decide +kernel
theorem dX10_act_583 : decode cX10_act 583 = .ok (.if_icmp .ne 7, 3) := by decide +kernel
theorem dX10_act_586 : decode cX10_act 586 = .ok (.iconst 1, 1) := by decide +kernel
theorem dX10_act_587 : decode cX10_act 587 = .ok (.goto 4, 3) := by decide +kernel
theorem dX10_act_590 : decode cX10_act 590 = .ok (.iconst 0, 1) := by decide +kernel
theorem dX10_act_591 : decode cX10_act 591 = .ok (.bastore, 1) := by decide +kernel
theorem dX10_act_592 : decode cX10_act 592 = .ok (.return_, 1) := by decide +kernel
theorem dX10_lines_0 : decode cX10_lines 0 = .ok (.aload_n 0, 1) := by decide +kernel
theorem dX10_lines_1 : decode cX10_lines 1 = .ok (.getfield 68, 3) := by decide +kernel
theorem dX10_lines_4 : decode cX10_lines 4 = .ok (.iload_n 1, 1) := by decide +kernel
theorem dX10_lines_5 : decode cX10_lines 5 = .ok (.iaload, 1) := by decide +kernel
theorem dX10_lines_6 : decode cX10_lines 6 = .ok (.aload_n 0, 1) := by decide +kernel
theorem dX10_lines_7 : decode cX10_lines 7 = .ok (.getfield 86, 3) := by decide +kernel
theorem dX10_lines_10 : decode cX10_lines 10 = .ok (.iload_n 1, 1) := by decide +kernel
theorem dX10_lines_11 : decode cX10_lines 11 = .ok (.iaload, 1) := by decide +kernel
theorem dX10_lines_12 : decode cX10_lines 12 = .ok (.if_icmp .lt 18, 3) := by decide +kernel
theorem dX10_lines_15 : decode cX10_lines 15 = .ok (.aload_n 0, 1) := by decide +kernel
theorem dX10_lines_16 : decode cX10_lines 16 = .ok (.getfield 68, 3) := by decide +kernel
theorem dX10_lines_19 : decode cX10_lines 19 = .ok (.iload_n 1, 1) := by decide +kernel
theorem dX10_lines_20 : decode cX10_lines 20 = .ok (.iaload, 1) := by decide +kernel
theorem dX10_lines_21 : decode cX10_lines 21 = .ok (.aload_n 0, 1) := by decide +kernel
theorem dX10_lines_22 : decode cX10_lines 22 = .ok (.getfield 89, 3) := by decide +kernel
theorem dX10_lines_25 : decode cX10_lines 25 = .ok (.iload_n 1, 1) := by decide +kernel
theorem dX10_lines_26 : decode cX10_lines 26 = .ok (.iaload, 1) := by decide +kernel
theorem dX10_lines_27 : decode cX10_lines 27 = .ok (.if_icmp .le 4, 3) := by decide +kernel
theorem dX10_lines_30 : decode cX10_lines 30 = .ok (.return_, 1) := by decide +kernel
theorem dX10_lines_31 : decode cX10_lines 31 = .ok (.iload_n 2, 1) := by decide +kernel
theorem dX10_lines_32 : decode cX10_lines 32 = .ok (.ifCond .eq 24, 3) := by decide +kernel
theorem dX10_lines_35 : decode cX10_lines 35 = .ok (.aload_n 0, 1) := by decide +kernel
theorem dX10_lines_36 : decode cX10_lines 36 = .ok (.iload_n 1, 1) := by decide +kernel
theorem dX10_lines_37 : decode cX10_lines 37 = .ok (.aload_n 0, 1) := by decide +kernel
theorem dX10_lines_38 : decode cX10_lines 38 = .ok (.getfield 68, 3) := by decide +kernel
theorem dX10_lines_41 : decode cX10_lines 41 = .ok (.iload_n 1, 1) := by decide +kernel
theorem dX10_lines_42 : decode cX10_lines 42 = .ok (.iaload, 1) := by decide +kernel
theorem dX10_lines_43 : decode cX10_lines 43 = .ok (.aload_n 0, 1) := by decide +kernel
theorem dX10_lines_44 : decode cX10_lines 44 = .ok (.getfield 89, 3) := by decide +kernel
theorem dX10_lines_47 : decode cX10_lines 47 = .ok (.iload_n 1, 1) := by decide +kernel
theorem dX10_lines_48 : decode cX10_lines 48 = .ok (.iaload, 1) := by decide +kernel
theorem dX10_lines_49 : decode cX10_lines 49 = .ok (.iload_n 3, 1) := by decide +kernel
theorem dX10_lines_50 : decode cX10_lines 50 = .ok (.invokevirtual 251, 3) := by decide +kernel
theorem dX10_lines_53 : decode cX10_lines 53 = .ok (.goto 22, 3) := by decide +kernel
theorem dX10_lines_56 : decode cX10_lines 56 = .ok (.aload_n 0, 1) := by decide +kernel
theorem dX10_lines_57 : decode cX10_lines 57 = .ok (.iload_n 1, 1) := by decide +kernel
theorem dX10_lines_58 : decode cX10_lines 58 = .ok (.aload_n 0, 1) := by decide +kernel
theorem dX10_lines_59 : decode cX10_lines 59 = .ok (.getfield 68, 3) := by decide +kernel
theorem dX10_lines_62 : decode cX10_lines 62 = .ok (.iload_n 1, 1) := by decide +kernel
theorem dX10_lines_63 : decode cX10_lines 63 = .ok (.iaload, 1) := by decide +kernel
theorem dX10_lines_64 : decode cX10_lines 64 = .ok (.aload_n 0, 1) := by decide +kernel
theorem dX10_lines_65 : decode cX10_lines 65 = .ok (.getfield 89, 3) := by decide +kernel
theorem dX10_lines_68 : decode cX10_lines 68 = .ok (.iload_n 1, 1) := by decide +kernel
theorem dX10_lines_69 : decode cX10_lines 69 = .ok (.iaload, 1) := by decide +kernel
theorem dX10_lines_70 : decode cX10_lines 70 = .ok (.iload_n 3, 1) := by decide +kernel
theorem dX10_lines_71 : decode cX10_lines 71 = .ok (.iconst 0, 1) := by decide +kernel
theorem dX10_lines_72 : decode cX10_lines 72 = .ok (.invokevirtual 247, 3) := by decide +kernel
theorem dX10_lines_75 : decode cX10_lines 75 = .ok (.aload_n 0, 1) := by decide +kernel
theorem dX10_lines_76 : decode cX10_lines 76 = .ok (.iload_n 1, 1) := by decide +kernel
theorem dX10_lines_77 : decode cX10_lines 77 = .ok (.aload_n 0, 1) := by decide +kernel
theorem dX10_lines_78 : decode cX10_lines 78 = .ok (.getfield 68, 3) := by decide +kernel
theorem dX10_lines_81 : decode cX10_lines 81 = .ok (.iload_n 1, 1) := by decide +kernel
theorem dX10_lines_82 : decode cX10_lines 82 = .ok (.iaload, 1) := by decide +kernel
theorem dX10_lines_83 : decode cX10_lines 83 = .ok (.iconst 0, 1) := by decide +kernel
theorem dX10_lines_84 : decode cX10_lines 84 = .ok (.invokevirtual 261, 3) := by decide +kernel
theorem dX10_lines_87 : decode cX10_lines 87 = .ok (.return_, 1) := by decide +kernel
theorem dX10_region_0 : decode cX10_region 0 = .ok (.iload_n 3, 1) := by decide +kernel
theorem dX10_region_1 : decode cX10_region 1 = .ok (.ifCond .eq 13, 3) := by decide +kernel
theorem dX10_region_4 : decode cX10_region 4 = .ok (.iload_n 3, 1) := by decide +kernel
theorem dX10_region_5 : decode cX10_region 5 = .ok (.aload_n 0, 1) := by decide +kernel
theorem dX10_region_6 : decode cX10_region 6 = .ok (.getfield 56, 3) := by decide +kernel
theorem dX10_region_9 : decode cX10_region 9 = .ok (.iload_n 1, 1) := by decide +kernel
theorem dX10_region_10 : decode cX10_region 10 = .ok (.iaload, 1) := by decide +kernel
theorem dX10_region_11 : decode cX10_region 11 = .ok (.if_icmp .le 12, 3) := by decide +kernel
theorem dX10_region_14 : decode cX10_region 14 = .ok (.aload_n 0, 1) := by decide +kernel
theorem dX10_region_15 : decode cX10_region 15 = .ok (.getfield 56, 3) := by decide +kernel
theorem dX10_region_18 : decode cX10_region 18 = .ok (.iload_n 1, 1) := by decide +kernel
theorem dX10_region_19 : decode cX10_region 19 = .ok (.iaload, 1) := by decide +kernel
theorem dX10_region_20 : decode cX10_region 20 = .ok (.goto 4, 3) := by decide +kernel
theorem dX10_region_23 : decode cX10_region 23 = .ok (.iload_n 3, 1) := by decide +kernel
theorem dX10_region_24 : decode cX10_region 24 = .ok (.istore 4, 2) := by decide +kernel
theorem dX10_region_26 : decode cX10_region 26 = .ok (.iload 4, 2) := by decide +kernel
theorem dX10_region_28 : decode cX10_region 28 = .ok (.iload_n 2, 1) := by decide +kernel
theorem dX10_region_29 : decode cX10_region 29 = .ok (.if_icmp .le 29, 3) := by decide +kernel
theorem dX10_region_32 : decode cX10_region 32 = .ok (.aload_n 0, 1) := by decide +kernel
theorem dX10_region_33 : decode cX10_region 33 = .ok (.getfield 86, 3) := by decide +kernel
theorem dX10_region_36 : decode cX10_region 36 = .ok (.iload_n 1, 1) := by decide +kernel
theorem dX10_region_37 : decode cX10_region 37 = .ok (.iload_n 2, 1) := by decide +kernel
theorem dX10_region_38 : decode cX10_region 38 = .ok (.iconst 1, 1) := by decide +kernel
theorem dX10_region_39 : decode cX10_region 39 = .ok (.isub, 1) := by decide +kernel
theorem dX10_region_40 : decode cX10_region 40 = .ok (.iastore, 1) := by decide +kernel
theorem dX10_region_41 : decode cX10_region 41 = .ok (.aload_n 0, 1) := by decide +kernel
theorem dX10_region_42 : decode cX10_region 42 = .ok (.getfield 89, 3) := by decide +kernel
theorem dX10_region_45 : decode cX10_region 45 = .ok (.iload_n 1, 1) := by decide +kernel
theorem dX10_region_46 : decode cX10_region 46 = .ok (.iload 4, 2) := by decide +kernel
theorem dX10_region_48 : decode cX10_region 48 = .ok (.iconst 1, 1) := by decide +kernel
theorem dX10_region_49 : decode cX10_region 49 = .ok (.isub, 1) := by decide +kernel
theorem dX10_region_50 : decode cX10_region 50 = .ok (.iastore, 1) := by decide +kernel
theorem dX10_region_51 : decode cX10_region 51 = .ok (.aload_n 0, 1) := by decide +kernel
theorem dX10_region_52 : decode cX10_region 52 = .ok (.iload_n 1, 1) := by decide +kernel
theorem dX10_region_53 : decode cX10_region 53 = .ok (.iconst 0, 1) := by decide +kernel
theorem dX10_region_54 : decode cX10_region 54 = .ok (.iconst 0, 1) := by decide +kernel
theorem dX10_region_55 : decode cX10_region 55 = .ok (.invokevirtual 261, 3) := by decide +kernel
theorem dX10_region_58 : decode cX10_region 58 = .ok (.return_, 1) := by decide +kernel
theorem dX10_pens_0 : decode cX10_pens 0 = .ok (.aload_n 0, 1) := by decide +kernel
theorem dX10_pens_1 : decode cX10_pens 1 = .ok (.getfield 110, 3) := by decide +kernel
theorem dX10_pens_4 : decode cX10_pens 4 = .ok (.iload_n 1, 1) := by decide +kernel
theorem dX10_pens_5 : decode cX10_pens 5 = .ok (.iaload, 1) := by decide +kernel
theorem dX10_pens_6 : decode cX10_pens 6 = .ok (.ifCond .ne 7, 3) := by decide +kernel
theorem dX10_pens_9 : decode cX10_pens 9 = .ok (.iconst 1, 1) := by decide +kernel
theorem dX10_pens_10 : decode cX10_pens 10 = .ok (.goto 13, 3) := by decide +kernel
theorem dX10_pens_13 : decode cX10_pens 13 = .ok (.iconst 4, 1) := by decide +kernel
theorem dX10_pens_14 : decode cX10_pens 14 = .ok (.aload_n 0, 1) := by decide +kernel
theorem dX10_pens_15 : decode cX10_pens 15 = .ok (.getfield 110, 3) := by decide +kernel
theorem dX10_pens_18 : decode cX10_pens 18 = .ok (.iload_n 1, 1) := by decide +kernel
theorem dX10_pens_19 : decode cX10_pens 19 = .ok (.iaload, 1) := by decide +kernel
theorem dX10_pens_20 : decode cX10_pens 20 = .ok (.invokestatic 192, 3) := by decide +kernel
theorem dX10_pens_23 : decode cX10_pens 23 = .ok (.istore_n 2, 1) := by decide +kernel
theorem dX10_pens_24 : decode cX10_pens 24 = .ok (.iconst 0, 1) := by decide +kernel
theorem dX10_pens_25 : decode cX10_pens 25 = .ok (.istore_n 3, 1) := by decide +kernel
theorem dX10_pens_26 : decode cX10_pens 26 = .ok (.iload_n 3, 1) := by decide +kernel
theorem dX10_pens_27 : decode cX10_pens 27 = .ok (.iload_n 2, 1) := by decide +kernel
theorem dX10_pens_28 : decode cX10_pens 28 = .ok (.if_icmp .ge 272, 3) := by decide +kernel
theorem dX10_pens_31 : decode cX10_pens 31 = .ok (.aload_n 0, 1) := by decide +kernel
theorem dX10_pens_32 : decode cX10_pens 32 = .ok (.getfield 107, 3) := by decide +kernel
theorem dX10_pens_35 : decode cX10_pens 35 = .ok (.iconst 4, 1) := by decide +kernel
theorem dX10_pens_36 : decode cX10_pens 36 = .ok (.iload_n 1, 1) := by decide +kernel
theorem dX10_pens_37 : decode cX10_pens 37 = .ok (.imul, 1) := by decide +kernel
theorem dX10_pens_38 : decode cX10_pens 38 = .ok (.iload_n 3, 1) := by decide +kernel
theorem dX10_pens_39 : decode cX10_pens 39 = .ok (.iadd, 1) := by decide +kernel
theorem dX10_pens_40 : decode cX10_pens 40 = .ok (.iaload, 1) := by decide +kernel
theorem dX10_pens_41 : decode cX10_pens 41 = .ok (.istore 4, 2) := by decide +kernel
theorem dX10_pens_43 : decode cX10_pens 43 = .ok (.iload 4, 2) := by decide +kernel
theorem dX10_pens_45 : decode cX10_pens 45 = .ok (.ifCond .ne 13, 3) := by decide +kernel
theorem dX10_pens_48 : decode cX10_pens 48 = .ok (.aload_n 0, 1) := by decide +kernel
theorem dX10_pens_49 : decode cX10_pens 49 = .ok (.getfield 74, 3) := by decide +kernel
theorem dX10_pens_52 : decode cX10_pens 52 = .ok (.iload_n 1, 1) := by decide +kernel
theorem dX10_pens_53 : decode cX10_pens 53 = .ok (.iconst 0, 1) := by decide +kernel
theorem dX10_pens_54 : decode cX10_pens 54 = .ok (.iastore, 1) := by decide +kernel
theorem dX10_pens_55 : decode cX10_pens 55 = .ok (.goto 239, 3) := by decide +kernel
theorem dX10_pens_58 : decode cX10_pens 58 = .ok (.iload 4, 2) := by decide +kernel
theorem dX10_pens_60 : decode cX10_pens 60 = .ok (.iconst 1, 1) := by decide +kernel
theorem dX10_pens_61 : decode cX10_pens 61 = .ok (.if_icmp .eq 16, 3) := by decide +kernel
theorem dX10_pens_64 : decode cX10_pens 64 = .ok (.iload 4, 2) := by decide +kernel
theorem dX10_pens_66 : decode cX10_pens 66 = .ok (.iconst 4, 1) := by decide +kernel
theorem dX10_pens_67 : decode cX10_pens 67 = .ok (.if_icmp .eq 10, 3) := by decide +kernel
theorem dX10_pens_70 : decode cX10_pens 70 = .ok (.iload 4, 2) := by decide +kernel
theorem dX10_pens_72 : decode cX10_pens 72 = .ok (.bipush 7, 2) := by decide +kernel
theorem dX10_pens_74 : decode cX10_pens 74 = .ok (.if_icmp .ne 40, 3) := by decide +kernel
theorem dX10_pens_77 : decode cX10_pens 77 = .ok (.aload_n 0, 1) := by decide +kernel
theorem dX10_pens_78 : decode cX10_pens 78 = .ok (.getfield 74, 3) := by decide +kernel
theorem dX10_pens_81 : decode cX10_pens 81 = .ok (.iload_n 1, 1) := by decide +kernel
theorem dX10_pens_82 : decode cX10_pens 82 = .ok (.aload_n 0, 1) := by decide +kernel
theorem dX10_pens_83 : decode cX10_pens 83 = .ok (.getfield 74, 3) := by decide +kernel
theorem dX10_pens_86 : decode cX10_pens 86 = .ok (.iload_n 1, 1) := by decide +kernel
theorem dX10_pens_87 : decode cX10_pens 87 = .ok (.iaload, 1) := by decide +kernel
theorem dX10_pens_88 : decode cX10_pens 88 = .ok (.iload 4, 2) := by decide +kernel
theorem dX10_pens_90 : decode cX10_pens 90 = .ok (.iconst 1, 1) := by decide +kernel
theorem dX10_pens_91 : decode cX10_pens 91 = .ok (.if_icmp .ne 7, 3) := by decide +kernel
theorem dX10_pens_94 : decode cX10_pens 94 = .ok (.iconst 1, 1) := by decide +kernel
theorem dX10_pens_95 : decode cX10_pens 95 = .ok (.goto 14, 3) := by decide +kernel
theorem dX10_pens_98 : decode cX10_pens 98 = .ok (.iload 4, 2) := by decide +kernel
theorem dX10_pens_100 : decode cX10_pens 100 = .ok (.iconst 4, 1) := by decide +kernel
theorem dX10_pens_101 : decode cX10_pens 101 = .ok (.if_icmp .ne 7, 3) := by decide +kernel
theorem dX10_pens_104 : decode cX10_pens 104 = .ok (.iconst 2, 1) := by decide +kernel
theorem dX10_pens_105 : decode cX10_pens 105 = .ok (.goto 4, 3) := by decide +kernel
theorem dX10_pens_108 : decode cX10_pens 108 = .ok (.iconst 4, 1) := by decide +kernel
theorem dX10_pens_109 : decode cX10_pens 109 = .ok (.ior, 1) := by decide +kernel
theorem dX10_pens_110 : decode cX10_pens 110 = .ok (.iastore, 1) := by decide +kernel
theorem dX10_pens_111 : decode cX10_pens 111 = .ok (.goto 183, 3) := by decide +kernel
theorem dX10_pens_114 : decode cX10_pens 114 = .ok (.iload 4, 2) := by decide +kernel
theorem dX10_pens_116 : decode cX10_pens 116 = .ok (.bipush 22, 2) := by decide +kernel
theorem dX10_pens_118 : decode cX10_pens 118 = .ok (.if_icmp .eq 17, 3) := by decide +kernel
theorem dX10_pens_121 : decode cX10_pens 121 = .ok (.iload 4, 2) := by decide +kernel
theorem dX10_pens_123 : decode cX10_pens 123 = .ok (.bipush 24, 2) := by decide +kernel
theorem dX10_pens_125 : decode cX10_pens 125 = .ok (.if_icmp .eq 10, 3) := by decide +kernel
theorem dX10_pens_128 : decode cX10_pens 128 = .ok (.iload 4, 2) := by decide +kernel
theorem dX10_pens_130 : decode cX10_pens 130 = .ok (.bipush 27, 2) := by decide +kernel
theorem dX10_pens_132 : decode cX10_pens 132 = .ok (.if_icmp .ne 44, 3) := by decide +kernel
theorem dX10_pens_135 : decode cX10_pens 135 = .ok (.aload_n 0, 1) := by decide +kernel
theorem dX10_pens_136 : decode cX10_pens 136 = .ok (.getfield 74, 3) := by decide +kernel
theorem dX10_pens_139 : decode cX10_pens 139 = .ok (.iload_n 1, 1) := by decide +kernel
theorem dX10_pens_140 : decode cX10_pens 140 = .ok (.aload_n 0, 1) := by decide +kernel
theorem dX10_pens_141 : decode cX10_pens 141 = .ok (.getfield 74, 3) := by decide +kernel
theorem dX10_pens_144 : decode cX10_pens 144 = .ok (.iload_n 1, 1) := by decide +kernel
theorem dX10_pens_145 : decode cX10_pens 145 = .ok (.iaload, 1) := by decide +kernel
theorem dX10_pens_146 : decode cX10_pens 146 = .ok (.iload 4, 2) := by decide +kernel
theorem dX10_pens_148 : decode cX10_pens 148 = .ok (.bipush 22, 2) := by decide +kernel
theorem dX10_pens_150 : decode cX10_pens 150 = .ok (.if_icmp .ne 7, 3) := by decide +kernel
theorem dX10_pens_153 : decode cX10_pens 153 = .ok (.iconst 1, 1) := by decide +kernel
theorem dX10_pens_154 : decode cX10_pens 154 = .ok (.goto 15, 3) := by decide +kernel
theorem dX10_pens_157 : decode cX10_pens 157 = .ok (.iload 4, 2) := by decide +kernel
theorem dX10_pens_159 : decode cX10_pens 159 = .ok (.bipush 24, 2) := by decide +kernel
theorem dX10_pens_161 : decode cX10_pens 161 = .ok (.if_icmp .ne 7, 3) := by decide +kernel
theorem dX10_pens_164 : decode cX10_pens 164 = .ok (.iconst 2, 1) := by decide +kernel
theorem dX10_pens_165 : decode cX10_pens 165 = .ok (.goto 4, 3) := by decide +kernel
theorem dX10_pens_168 : decode cX10_pens 168 = .ok (.iconst 4, 1) := by decide +kernel
theorem dX10_pens_169 : decode cX10_pens 169 = .ok (.iconst (-1), 1) := by decide +kernel
theorem dX10_pens_170 : decode cX10_pens 170 = .ok (.ixor, 1) := by decide +kernel
theorem dX10_pens_171 : decode cX10_pens 171 = .ok (.iand, 1) := by decide +kernel
theorem dX10_pens_172 : decode cX10_pens 172 = .ok (.iastore, 1) := by decide +kernel
theorem dX10_pens_173 : decode cX10_pens 173 = .ok (.goto 121, 3) := by decide +kernel
theorem dX10_pens_176 : decode cX10_pens 176 = .ok (.iload 4, 2) := by decide +kernel
theorem dX10_pens_178 : decode cX10_pens 178 = .ok (.bipush 30, 2) := by decide +kernel
theorem dX10_pens_180 : decode cX10_pens 180 = .ok (.if_icmp .lt 10, 3) := by decide +kernel
theorem dX10_pens_183 : decode cX10_pens 183 = .ok (.iload 4, 2) := by decide +kernel
theorem dX10_pens_185 : decode cX10_pens 185 = .ok (.bipush 37, 2) := by decide +kernel
theorem dX10_pens_187 : decode cX10_pens 187 = .ok (.if_icmp .le 10, 3) := by decide +kernel
theorem dX10_pens_190 : decode cX10_pens 190 = .ok (.iload 4, 2) := by decide +kernel
theorem dX10_pens_192 : decode cX10_pens 192 = .ok (.bipush 39, 2) := by decide +kernel
theorem dX10_pens_194 : decode cX10_pens 194 = .ok (.if_icmp .ne 42, 3) := by decide +kernel
theorem dX10_pens_197 : decode cX10_pens 197 = .ok (.aload_n 0, 1) := by decide +kernel
theorem dX10_pens_198 : decode cX10_pens 198 = .ok (.getfield 74, 3) := by decide +kernel
theorem dX10_pens_201 : decode cX10_pens 201 = .ok (.iload_n 1, 1) := by decide +kernel
theorem dX10_pens_202 : decode cX10_pens 202 = .ok (.aload_n 0, 1) := by decide +kernel
theorem dX10_pens_203 : decode cX10_pens 203 = .ok (.getfield 74, 3) := by decide +kernel
theorem dX10_pens_206 : decode cX10_pens 206 = .ok (.iload_n 1, 1) := by decide +kernel
theorem dX10_pens_207 : decode cX10_pens 207 = .ok (.iaload, 1) := by decide +kernel
theorem dX10_pens_208 : decode cX10_pens 208 = .ok (.sipush (-241), 3) := by decide +kernel
theorem dX10_pens_211 : decode cX10_pens 211 = .ok (.iand, 1) := by decide +kernel
theorem dX10_pens_212 : decode cX10_pens 212 = .ok (.iload 4, 2) := by decide +kernel
theorem dX10_pens_214 : decode cX10_pens 214 = .ok (.bipush 39, 2) := by decide +kernel
theorem dX10_pens_216 : decode cX10_pens 216 = .ok (.if_icmp .ne 7, 3) := by decide +kernel
theorem dX10_pens_219 : decode cX10_pens 219 = .ok (.iconst 0, 1) := by decide +kernel
theorem dX10_pens_220 : decode cX10_pens 220 = .ok (.goto 11, 3) := by decide +kernel
theorem dX10_pens_223 : decode cX10_pens 223 = .ok (.bipush 16, 2) := by decide +kernel
theorem dX10_pens_225 : decode cX10_pens 225 = .ok (.iload 4, 2) := by decide +kernel
theorem dX10_pens_227 : decode cX10_pens 227 = .ok (.bipush 29, 2) := by decide +kernel
theorem dX10_pens_229 : decode cX10_pens 229 = .ok (.isub, 1) := by decide +kernel
theorem dX10_pens_230 : decode cX10_pens 230 = .ok (.imul, 1) := by decide +kernel
theorem dX10_pens_231 : decode cX10_pens 231 = .ok (.ior, 1) := by decide +kernel
theorem dX10_pens_232 : decode cX10_pens 232 = .ok (.iastore, 1) := by decide +kernel
theorem dX10_pens_233 : decode cX10_pens 233 = .ok (.goto 61, 3) := by decide +kernel
theorem dX10_pens_236 : decode cX10_pens 236 = .ok (.iload 4, 2) := by decide +kernel
theorem dX10_pens_238 : decode cX10_pens 238 = .ok (.bipush 40, 2) := by decide +kernel
theorem dX10_pens_240 : decode cX10_pens 240 = .ok (.if_icmp .lt 10, 3) := by decide +kernel
theorem dX10_pens_243 : decode cX10_pens 243 = .ok (.iload 4, 2) := by decide +kernel
theorem dX10_pens_245 : decode cX10_pens 245 = .ok (.bipush 47, 2) := by decide +kernel
theorem dX10_pens_247 : decode cX10_pens 247 = .ok (.if_icmp .le 10, 3) := by decide +kernel
theorem dX10_pens_250 : decode cX10_pens 250 = .ok (.iload 4, 2) := by decide +kernel
theorem dX10_pens_252 : decode cX10_pens 252 = .ok (.bipush 49, 2) := by decide +kernel
theorem dX10_pens_254 : decode cX10_pens 254 = .ok (.if_icmp .ne 40, 3) := by decide +kernel
theorem dX10_pens_257 : decode cX10_pens 257 = .ok (.aload_n 0, 1) := by decide +kernel
theorem dX10_pens_258 : decode cX10_pens 258 = .ok (.getfield 74, 3) := by decide +kernel
theorem dX10_pens_261 : decode cX10_pens 261 = .ok (.iload_n 1, 1) := by decide +kernel
theorem dX10_pens_262 : decode cX10_pens 262 = .ok (.aload_n 0, 1) := by decide +kernel
theorem dX10_pens_263 : decode cX10_pens 263 = .ok (.getfield 74, 3) := by decide +kernel
theorem dX10_pens_266 : decode cX10_pens 266 = .ok (.iload_n 1, 1) := by decide +kernel
theorem dX10_pens_267 : decode cX10_pens 267 = .ok (.iaload, 1) := by decide +kernel
theorem dX10_pens_268 : decode cX10_pens 268 = .ok (.sipush (-3841), 3) := by decide +kernel
theorem dX10_pens_271 : decode cX10_pens 271 = .ok (.iand, 1) := by decide +kernel
theorem dX10_pens_272 : decode cX10_pens 272 = .ok (.iload 4, 2) := by decide +kernel
theorem dX10_pens_274 : decode cX10_pens 274 = .ok (.bipush 49, 2) := by decide +kernel
theorem dX10_pens_276 : decode cX10_pens 276 = .ok (.if_icmp .ne 7, 3) := by decide +kernel
theorem dX10_pens_279 : decode cX10_pens 279 = .ok (.iconst 0, 1) := by decide +kernel
theorem dX10_pens_280 : decode cX10_pens 280 = .ok (.goto 12, 3) := by decide +kernel
theorem dX10_pens_283 : decode cX10_pens 283 = .ok (.sipush 256, 3) := by decide +kernel
theorem dX10_pens_286 : decode cX10_pens 286 = .ok (.iload 4, 2) := by decide +kernel
theorem dX10_pens_288 : decode cX10_pens 288 = .ok (.bipush 39, 2) := by decide +kernel
theorem dX10_pens_290 : decode cX10_pens 290 = .ok (.isub, 1) := by decide +kernel
theorem dX10_pens_291 : decode cX10_pens 291 = .ok (.imul, 1) := by decide +kernel
theorem dX10_pens_292 : decode cX10_pens 292 = .ok (.ior, 1) := by decide +kernel
theorem dX10_pens_293 : decode cX10_pens 293 = .ok (.iastore, 1) := by decide +kernel
theorem dX10_pens_294 : decode cX10_pens 294 = .ok (.iinc 3 1, 3) := by decide +kernel
theorem dX10_pens_297 : decode cX10_pens 297 = .ok (.goto (-271), 3) := by decide +kernel
theorem dX10_pens_300 : decode cX10_pens 300 = .ok (.return_, 1) := by decide +kernel
theorem dX10_feed_0 : decode cX10_feed 0 = .ok (.aload_n 0, 1) := by decide +kernel
theorem dX10_feed_1 : decode cX10_feed 1 = .ok (.aload_n 0, 1) := by decide +kernel
theorem dX10_feed_2 : decode cX10_feed 2 = .ok (.iload_n 1, 1) := by decide +kernel
theorem dX10_feed_3 : decode cX10_feed 3 = .ok (.invokevirtual 213, 3) := by decide +kernel
theorem dX10_feed_6 : decode cX10_feed 6 = .ok (.ifCond .eq 7, 3) := by decide +kernel
theorem dX10_feed_9 : decode cX10_feed 9 = .ok (.iconst 1, 1) := by decide +kernel
theorem dX10_feed_10 : decode cX10_feed 10 = .ok (.goto 21, 3) := by decide +kernel
theorem dX10_feed_13 : decode cX10_feed 13 = .ok (.iload 4, 2) := by decide +kernel
theorem dX10_feed_15 : decode cX10_feed 15 = .ok (.iconst 1, 1) := by decide +kernel
theorem dX10_feed_16 : decode cX10_feed 16 = .ok (.if_icmp .lt 10, 3) := by decide +kernel
theorem dX10_feed_19 : decode cX10_feed 19 = .ok (.iload 4, 2) := by decide +kernel
theorem dX10_feed_21 : decode cX10_feed 21 = .ok (.bipush 8, 2) := by decide +kernel
theorem dX10_feed_23 : decode cX10_feed 23 = .ok (.if_icmp .le 7, 3) := by decide +kernel
theorem dX10_feed_26 : decode cX10_feed 26 = .ok (.iconst 2, 1) := by decide +kernel
theorem dX10_feed_27 : decode cX10_feed 27 = .ok (.goto 4, 3) := by decide +kernel
theorem dX10_feed_30 : decode cX10_feed 30 = .ok (.iconst 0, 1) := by decide +kernel
theorem dX10_feed_31 : decode cX10_feed 31 = .ok (.putfield 173, 3) := by decide +kernel
theorem dX10_feed_34 : decode cX10_feed 34 = .ok (.iconst 0, 1) := by decide +kernel
theorem dX10_feed_35 : decode cX10_feed 35 = .ok (.istore 5, 2) := by decide +kernel
theorem dX10_feed_37 : decode cX10_feed 37 = .ok (.iload 5, 2) := by decide +kernel
theorem dX10_feed_39 : decode cX10_feed 39 = .ok (.iload 4, 2) := by decide +kernel
theorem dX10_feed_41 : decode cX10_feed 41 = .ok (.if_icmp .ge 33, 3) := by decide +kernel
theorem dX10_feed_44 : decode cX10_feed 44 = .ok (.aload_n 0, 1) := by decide +kernel
theorem dX10_feed_45 : decode cX10_feed 45 = .ok (.getfield 173, 3) := by decide +kernel
theorem dX10_feed_48 : decode cX10_feed 48 = .ok (.ifCond .ne 26, 3) := by decide +kernel
theorem dX10_feed_51 : decode cX10_feed 51 = .ok (.aload_n 0, 1) := by decide +kernel
theorem dX10_feed_52 : decode cX10_feed 52 = .ok (.iload_n 1, 1) := by decide +kernel
theorem dX10_feed_53 : decode cX10_feed 53 = .ok (.lload_n 2, 1) := by decide +kernel
theorem dX10_feed_54 : decode cX10_feed 54 = .ok (.bipush 8, 2) := by decide +kernel
theorem dX10_feed_56 : decode cX10_feed 56 = .ok (.iload 5, 2) := by decide +kernel
theorem dX10_feed_58 : decode cX10_feed 58 = .ok (.imul, 1) := by decide +kernel
theorem dX10_feed_59 : decode cX10_feed 59 = .ok (.lshr, 1) := by decide +kernel
theorem dX10_feed_60 : decode cX10_feed 60 = .ok (.l2i, 1) := by decide +kernel
theorem dX10_feed_61 : decode cX10_feed 61 = .ok (.sipush 255, 3) := by decide +kernel
theorem dX10_feed_64 : decode cX10_feed 64 = .ok (.iand, 1) := by decide +kernel
theorem dX10_feed_65 : decode cX10_feed 65 = .ok (.invokevirtual 302, 3) := by decide +kernel
theorem dX10_feed_68 : decode cX10_feed 68 = .ok (.iinc 5 1, 3) := by decide +kernel
theorem dX10_feed_71 : decode cX10_feed 71 = .ok (.goto (-34), 3) := by decide +kernel
theorem dX10_feed_74 : decode cX10_feed 74 = .ok (.return_, 1) := by decide +kernel
theorem dX10_comesIn_0 : decode cX10_comesIn 0 = .ok (.aload_n 0, 1) := by decide +kernel
theorem dX10_comesIn_1 : decode cX10_comesIn 1 = .ok (.getfield 137, 3) := by decide +kernel
theorem dX10_comesIn_4 : decode cX10_comesIn 4 = .ok (.bipush 64, 2) := by decide +kernel
theorem dX10_comesIn_6 : decode cX10_comesIn 6 = .ok (.iload_n 1, 1) := by decide +kernel
theorem dX10_comesIn_7 : decode cX10_comesIn 7 = .ok (.imul, 1) := by decide +kernel
theorem dX10_comesIn_8 : decode cX10_comesIn 8 = .ok (.aload_n 0, 1) := by decide +kernel
theorem dX10_comesIn_9 : decode cX10_comesIn 9 = .ok (.getfield 134, 3) := by decide +kernel
theorem dX10_comesIn_12 : decode cX10_comesIn 12 = .ok (.iload_n 1, 1) := by decide +kernel
theorem dX10_comesIn_13 : decode cX10_comesIn 13 = .ok (.iaload, 1) := by decide +kernel
theorem dX10_comesIn_14 : decode cX10_comesIn 14 = .ok (.bipush 64, 2) := by decide +kernel
theorem dX10_comesIn_16 : decode cX10_comesIn 16 = .ok (.irem, 1) := by decide +kernel
theorem dX10_comesIn_17 : decode cX10_comesIn 17 = .ok (.iadd, 1) := by decide +kernel
theorem dX10_comesIn_18 : decode cX10_comesIn 18 = .ok (.iload_n 2, 1) := by decide +kernel
theorem dX10_comesIn_19 : decode cX10_comesIn 19 = .ok (.iastore, 1) := by decide +kernel
theorem dX10_comesIn_20 : decode cX10_comesIn 20 = .ok (.aload_n 0, 1) := by decide +kernel
theorem dX10_comesIn_21 : decode cX10_comesIn 21 = .ok (.getfield 134, 3) := by decide +kernel
theorem dX10_comesIn_24 : decode cX10_comesIn 24 = .ok (.iload_n 1, 1) := by decide +kernel
theorem dX10_comesIn_25 : decode cX10_comesIn 25 = .ok (.dup2, 1) := by decide +kernel
theorem dX10_comesIn_26 : decode cX10_comesIn 26 = .ok (.iaload, 1) := by decide +kernel
theorem dX10_comesIn_27 : decode cX10_comesIn 27 = .ok (.iconst 1, 1) := by decide +kernel
theorem dX10_comesIn_28 : decode cX10_comesIn 28 = .ok (.iadd, 1) := by decide +kernel
theorem dX10_comesIn_29 : decode cX10_comesIn 29 = .ok (.iastore, 1) := by decide +kernel
theorem dX10_comesIn_30 : decode cX10_comesIn 30 = .ok (.return_, 1) := by decide +kernel
theorem dX10_offsetOf_0 : decode cX10_offsetOf 0 = .ok (.aload_n 0, 1) := by decide +kernel
theorem dX10_offsetOf_1 : decode cX10_offsetOf 1 = .ok (.getfield 128, 3) := by decide +kernel
theorem dX10_offsetOf_4 : decode cX10_offsetOf 4 = .ok (.iload_n 1, 1) := by decide +kernel
theorem dX10_offsetOf_5 : decode cX10_offsetOf 5 = .ok (.baload, 1) := by decide +kernel
theorem dX10_offsetOf_6 : decode cX10_offsetOf 6 = .ok (.ifCond .eq 21, 3) := by decide +kernel
theorem dX10_offsetOf_9 : decode cX10_offsetOf 9 = .ok (.aload_n 0, 1) := by decide +kernel
theorem dX10_offsetOf_10 : decode cX10_offsetOf 10 = .ok (.getfield 131, 3) := by decide +kernel
theorem dX10_offsetOf_13 : decode cX10_offsetOf 13 = .ok (.iload_n 1, 1) := by decide +kernel
theorem dX10_offsetOf_14 : decode cX10_offsetOf 14 = .ok (.iaload, 1) := by decide +kernel
theorem dX10_offsetOf_15 : decode cX10_offsetOf 15 = .ok (.aload_n 0, 1) := by decide +kernel
theorem dX10_offsetOf_16 : decode cX10_offsetOf 16 = .ok (.getfield 125, 3) := by decide +kernel
theorem dX10_offsetOf_19 : decode cX10_offsetOf 19 = .ok (.iload_n 1, 1) := by decide +kernel
theorem dX10_offsetOf_20 : decode cX10_offsetOf 20 = .ok (.iaload, 1) := by decide +kernel
theorem dX10_offsetOf_21 : decode cX10_offsetOf 21 = .ok (.invokestatic 192, 3) := by decide +kernel
theorem dX10_offsetOf_24 : decode cX10_offsetOf 24 = .ok (.goto 4, 3) := by decide +kernel
theorem dX10_offsetOf_27 : decode cX10_offsetOf 27 = .ok (.iconst 0, 1) := by decide +kernel
theorem dX10_offsetOf_28 : decode cX10_offsetOf 28 = .ok (.ireturn, 1) := by decide +kernel
theorem dX10_goUp_0 : decode cX10_goUp 0 = .ok (.aload_n 0, 1) := by decide +kernel
theorem dX10_goUp_1 : decode cX10_goUp 1 = .ok (.iload_n 1, 1) := by decide +kernel
theorem dX10_goUp_2 : decode cX10_goUp 2 = .ok (.invokevirtual 305, 3) := by decide +kernel
theorem dX10_goUp_5 : decode cX10_goUp 5 = .ok (.i2l, 1) := by decide +kernel
theorem dX10_goUp_6 : decode cX10_goUp 6 = .ok (.iload_n 2, 1) := by decide +kernel
theorem dX10_goUp_7 : decode cX10_goUp 7 = .ok (.i2l, 1) := by decide +kernel
theorem dX10_goUp_8 : decode cX10_goUp 8 = .ok (.ladd, 1) := by decide +kernel
theorem dX10_goUp_9 : decode cX10_goUp 9 = .ok (.lstore_n 3, 1) := by decide +kernel
theorem dX10_goUp_10 : decode cX10_goUp 10 = .ok (.aload_n 0, 1) := by decide +kernel
theorem dX10_goUp_11 : decode cX10_goUp 11 = .ok (.getfield 131, 3) := by decide +kernel
theorem dX10_goUp_14 : decode cX10_goUp 14 = .ok (.iload_n 1, 1) := by decide +kernel
theorem dX10_goUp_15 : decode cX10_goUp 15 = .ok (.lload_n 3, 1) := by decide +kernel
theorem dX10_goUp_16 : decode cX10_goUp 16 = .ok (.lconst 0, 1) := by decide +kernel
theorem dX10_goUp_17 : decode cX10_goUp 17 = .ok (.lcmp, 1) := by decide +kernel
theorem dX10_goUp_18 : decode cX10_goUp 18 = .ok (.ifCond .ge 7, 3) := by decide +kernel
theorem dX10_goUp_21 : decode cX10_goUp 21 = .ok (.iconst 0, 1) := by decide +kernel
theorem dX10_goUp_22 : decode cX10_goUp 22 = .ok (.goto 26, 3) := by decide +kernel
theorem dX10_goUp_25 : decode cX10_goUp 25 = .ok (.lload_n 3, 1) := by decide +kernel
theorem dX10_goUp_26 : decode cX10_goUp 26 = .ok (.aload_n 0, 1) := by decide +kernel
theorem dX10_goUp_27 : decode cX10_goUp 27 = .ok (.getfield 125, 3) := by decide +kernel
theorem dX10_goUp_30 : decode cX10_goUp 30 = .ok (.iload_n 1, 1) := by decide +kernel
theorem dX10_goUp_31 : decode cX10_goUp 31 = .ok (.iaload, 1) := by decide +kernel
theorem dX10_goUp_32 : decode cX10_goUp 32 = .ok (.i2l, 1) := by decide +kernel
theorem dX10_goUp_33 : decode cX10_goUp 33 = .ok (.lcmp, 1) := by decide +kernel
theorem dX10_goUp_34 : decode cX10_goUp 34 = .ok (.ifCond .le 12, 3) := by decide +kernel
theorem dX10_goUp_37 : decode cX10_goUp 37 = .ok (.aload_n 0, 1) := by decide +kernel
theorem dX10_goUp_38 : decode cX10_goUp 38 = .ok (.getfield 125, 3) := by decide +kernel
theorem dX10_goUp_41 : decode cX10_goUp 41 = .ok (.iload_n 1, 1) := by decide +kernel
theorem dX10_goUp_42 : decode cX10_goUp 42 = .ok (.iaload, 1) := by decide +kernel
theorem dX10_goUp_43 : decode cX10_goUp 43 = .ok (.goto 5, 3) := by decide +kernel
theorem dX10_goUp_46 : decode cX10_goUp 46 = .ok (.lload_n 3, 1) := by decide +kernel
theorem dX10_goUp_47 : decode cX10_goUp 47 = .ok (.l2i, 1) := by decide +kernel
theorem dX10_goUp_48 : decode cX10_goUp 48 = .ok (.iastore, 1) := by decide +kernel
theorem dX10_goUp_49 : decode cX10_goUp 49 = .ok (.return_, 1) := by decide +kernel
theorem dX10_command_0 : decode cX10_command 0 = .ok (.iload_n 1, 1) := by decide +kernel
theorem dX10_command_1 : decode cX10_command 1 = .ok (.bipush 34, 2) := by decide +kernel
theorem dX10_command_3 : decode cX10_command 3 = .ok (.if_icmp .eq 9, 3) := by decide +kernel
theorem dX10_command_6 : decode cX10_command 6 = .ok (.iload_n 1, 1) := by decide +kernel
theorem dX10_command_7 : decode cX10_command 7 = .ok (.bipush 37, 2) := by decide +kernel
theorem dX10_command_9 : decode cX10_command 9 = .ok (.if_icmp .ne 48, 3) := by decide +kernel
theorem dX10_command_12 : decode cX10_command 12 = .ok (.aload_n 0, 1) := by decide +kernel
theorem dX10_command_13 : decode cX10_command 13 = .ok (.aload_n 0, 1) := by decide +kernel
theorem dX10_command_14 : decode cX10_command 14 = .ok (.getfield 207, 3) := by decide +kernel
theorem dX10_command_17 : decode cX10_command 17 = .ok (.iload_n 1, 1) := by decide +kernel
theorem dX10_command_18 : decode cX10_command 18 = .ok (.bipush 34, 2) := by decide +kernel
theorem dX10_command_20 : decode cX10_command 20 = .ok (.if_icmp .ne 7, 3) := by decide +kernel
theorem dX10_command_23 : decode cX10_command 23 = .ok (.iconst 1, 1) := by decide +kernel
theorem dX10_command_24 : decode cX10_command 24 = .ok (.goto 4, 3) := by decide +kernel
theorem dX10_command_27 : decode cX10_command 27 = .ok (.iconst 0, 1) := by decide +kernel
theorem dX10_command_28 : decode cX10_command 28 = .ok (.invokevirtual 217, 3) := by decide +kernel
theorem dX10_command_31 : decode cX10_command 31 = .ok (.ifCond .eq 212, 3) := by decide +kernel
theorem dX10_command_34 : decode cX10_command 34 = .ok (.aload_n 0, 1) := by decide +kernel
theorem dX10_command_35 : decode cX10_command 35 = .ok (.aload_n 0, 1) := by decide +kernel
theorem dX10_command_36 : decode cX10_command 36 = .ok (.getfield 207, 3) := by decide +kernel
theorem dX10_command_39 : decode cX10_command 39 = .ok (.iload_n 1, 1) := by decide +kernel
theorem dX10_command_40 : decode cX10_command 40 = .ok (.bipush 34, 2) := by decide +kernel
theorem dX10_command_42 : decode cX10_command 42 = .ok (.if_icmp .ne 7, 3) := by decide +kernel
theorem dX10_command_45 : decode cX10_command 45 = .ok (.iconst 1, 1) := by decide +kernel
theorem dX10_command_46 : decode cX10_command 46 = .ok (.goto 4, 3) := by decide +kernel
theorem dX10_command_49 : decode cX10_command 49 = .ok (.iconst 0, 1) := by decide +kernel
theorem dX10_command_50 : decode cX10_command 50 = .ok (.invokevirtual 221, 3) := by decide +kernel
theorem dX10_command_53 : decode cX10_command 53 = .ok (.pop, 1) := by decide +kernel
theorem dX10_command_54 : decode cX10_command 54 = .ok (.goto 189, 3) := by decide +kernel
theorem dX10_command_57 : decode cX10_command 57 = .ok (.iload_n 1, 1) := by decide +kernel
theorem dX10_command_58 : decode cX10_command 58 = .ok (.bipush 111, 2) := by decide +kernel
theorem dX10_command_60 : decode cX10_command 60 = .ok (.if_icmp .ne 60, 3) := by decide +kernel
theorem dX10_command_63 : decode cX10_command 63 = .ok (.aload_n 0, 1) := by decide +kernel
theorem dX10_command_64 : decode cX10_command 64 = .ok (.getfield 207, 3) := by decide +kernel
theorem dX10_command_67 : decode cX10_command 67 = .ok (.istore_n 2, 1) := by decide +kernel
theorem dX10_command_68 : decode cX10_command 68 = .ok (.bipush 8, 2) := by decide +kernel
theorem dX10_command_70 : decode cX10_command 70 = .ok (.istore_n 3, 1) := by decide +kernel
theorem dX10_command_71 : decode cX10_command 71 = .ok (.iload_n 3, 1) := by decide +kernel
theorem dX10_command_72 : decode cX10_command 72 = .ok (.ifCond .le 40, 3) := by decide +kernel
theorem dX10_command_75 : decode cX10_command 75 = .ok (.aload_n 0, 1) := by decide +kernel
theorem dX10_command_76 : decode cX10_command 76 = .ok (.getfield 47, 3) := by decide +kernel
theorem dX10_command_79 : decode cX10_command 79 = .ok (.aload_n 0, 1) := by decide +kernel
theorem dX10_command_80 : decode cX10_command 80 = .ok (.getfield 207, 3) := by decide +kernel
theorem dX10_command_83 : decode cX10_command 83 = .ok (.iload_n 3, 1) := by decide +kernel
theorem dX10_command_84 : decode cX10_command 84 = .ok (.iadd, 1) := by decide +kernel
theorem dX10_command_85 : decode cX10_command 85 = .ok (.bipush 8, 2) := by decide +kernel
theorem dX10_command_87 : decode cX10_command 87 = .ok (.irem, 1) := by decide +kernel
theorem dX10_command_88 : decode cX10_command 88 = .ok (.baload, 1) := by decide +kernel
theorem dX10_command_89 : decode cX10_command 89 = .ok (.ifCond .eq 15, 3) := by decide +kernel
theorem dX10_command_92 : decode cX10_command 92 = .ok (.aload_n 0, 1) := by decide +kernel
theorem dX10_command_93 : decode cX10_command 93 = .ok (.getfield 207, 3) := by decide +kernel
theorem dX10_command_96 : decode cX10_command 96 = .ok (.iload_n 3, 1) := by decide +kernel
theorem dX10_command_97 : decode cX10_command 97 = .ok (.iadd, 1) := by decide +kernel
theorem dX10_command_98 : decode cX10_command 98 = .ok (.bipush 8, 2) := by decide +kernel
theorem dX10_command_100 : decode cX10_command 100 = .ok (.irem, 1) := by decide +kernel
theorem dX10_command_101 : decode cX10_command 101 = .ok (.goto 4, 3) := by decide +kernel
theorem dX10_command_104 : decode cX10_command 104 = .ok (.iload_n 2, 1) := by decide +kernel
theorem dX10_command_105 : decode cX10_command 105 = .ok (.istore_n 2, 1) := by decide +kernel
theorem dX10_command_106 : decode cX10_command 106 = .ok (.iinc 3 (-1), 3) := by decide +kernel
theorem dX10_command_109 : decode cX10_command 109 = .ok (.goto (-38), 3) := by decide +kernel
theorem dX10_command_112 : decode cX10_command 112 = .ok (.aload_n 0, 1) := by decide +kernel
theorem dX10_command_113 : decode cX10_command 113 = .ok (.iload_n 2, 1) := by decide +kernel
theorem dX10_command_114 : decode cX10_command 114 = .ok (.putfield 207, 3) := by decide +kernel
theorem dX10_command_117 : decode cX10_command 117 = .ok (.goto 126, 3) := by decide +kernel
theorem dX10_command_120 : decode cX10_command 120 = .ok (.iload_n 1, 1) := by decide +kernel
theorem dX10_command_121 : decode cX10_command 121 = .ok (.bipush 120, 2) := by decide +kernel
theorem dX10_command_123 : decode cX10_command 123 = .ok (.if_icmp .ne 22, 3) := by decide +kernel
theorem dX10_command_126 : decode cX10_command 126 = .ok (.aload_n 0, 1) := by decide +kernel
theorem dX10_command_127 : decode cX10_command 127 = .ok (.invokevirtual 225, 3) := by decide +kernel
theorem dX10_command_130 : decode cX10_command 130 = .ok (.iconst 1, 1) := by decide +kernel
theorem dX10_command_131 : decode cX10_command 131 = .ok (.if_icmp .le 112, 3) := by decide +kernel
theorem dX10_command_134 : decode cX10_command 134 = .ok (.aload_n 0, 1) := by decide +kernel
theorem dX10_command_135 : decode cX10_command 135 = .ok (.aload_n 0, 1) := by decide +kernel
theorem dX10_command_136 : decode cX10_command 136 = .ok (.getfield 207, 3) := by decide +kernel
theorem dX10_command_139 : decode cX10_command 139 = .ok (.invokevirtual 228, 3) := by decide +kernel
theorem dX10_command_142 : decode cX10_command 142 = .ok (.goto 101, 3) := by decide +kernel
theorem dX10_command_145 : decode cX10_command 145 = .ok (.iload_n 1, 1) := by decide +kernel
theorem dX10_command_146 : decode cX10_command 146 = .ok (.bipush 91, 2) := by decide +kernel
theorem dX10_command_148 : decode cX10_command 148 = .ok (.if_icmp .ne 42, 3) := by decide +kernel
theorem dX10_command_151 : decode cX10_command 151 = .ok (.aload_n 0, 1) := by decide +kernel
theorem dX10_command_152 : decode cX10_command 152 = .ok (.getfield 128, 3) := by decide +kernel
theorem dX10_command_155 : decode cX10_command 155 = .ok (.aload_n 0, 1) := by decide +kernel
theorem dX10_command_156 : decode cX10_command 156 = .ok (.getfield 207, 3) := by decide +kernel
theorem dX10_command_159 : decode cX10_command 159 = .ok (.aload_n 0, 1) := by decide +kernel
theorem dX10_command_160 : decode cX10_command 160 = .ok (.getfield 128, 3) := by decide +kernel
theorem dX10_command_163 : decode cX10_command 163 = .ok (.aload_n 0, 1) := by decide +kernel
theorem dX10_command_164 : decode cX10_command 164 = .ok (.getfield 207, 3) := by decide +kernel
theorem dX10_command_167 : decode cX10_command 167 = .ok (.baload, 1) := by decide +kernel
theorem dX10_command_168 : decode cX10_command 168 = .ok (.ifCond .ne 7, 3) := by decide +kernel
theorem dX10_command_171 : decode cX10_command 171 = .ok (.iconst 1, 1) := by decide +kernel
theorem dX10_command_172 : decode cX10_command 172 = .ok (.goto 4, 3) := by decide +kernel
theorem dX10_command_175 : decode cX10_command 175 = .ok (.iconst 0, 1) := by decide +kernel
theorem dX10_command_176 : decode cX10_command 176 = .ok (.bastore, 1) := by decide +kernel
theorem dX10_command_177 : decode cX10_command 177 = .ok (.aload_n 0, 1) := by decide +kernel
theorem dX10_command_178 : decode cX10_command 178 = .ok (.getfield 131, 3) := by decide +kernel
theorem dX10_command_181 : decode cX10_command 181 = .ok (.aload_n 0, 1) := by decide +kernel
theorem dX10_command_182 : decode cX10_command 182 = .ok (.getfield 207, 3) := by decide +kernel
theorem dX10_command_185 : decode cX10_command 185 = .ok (.iconst 0, 1) := by decide +kernel
theorem dX10_command_186 : decode cX10_command 186 = .ok (.iastore, 1) := by decide +kernel
theorem dX10_command_187 : decode cX10_command 187 = .ok (.goto 56, 3) := by decide +kernel
theorem dX10_command_190 : decode cX10_command 190 = .ok (.iload_n 1, 1) := by decide +kernel
theorem dX10_command_191 : decode cX10_command 191 = .ok (.bipush 93, 2) := by decide +kernel
theorem dX10_command_193 : decode cX10_command 193 = .ok (.if_icmp .ne 36, 3) := by decide +kernel
theorem dX10_command_196 : decode cX10_command 196 = .ok (.iconst 0, 1) := by decide +kernel
theorem dX10_command_197 : decode cX10_command 197 = .ok (.istore_n 2, 1) := by decide +kernel
theorem dX10_command_198 : decode cX10_command 198 = .ok (.iload_n 2, 1) := by decide +kernel
theorem dX10_command_199 : decode cX10_command 199 = .ok (.aload_n 0, 1) := by decide +kernel
theorem dX10_command_200 : decode cX10_command 200 = .ok (.getfield 308, 3) := by decide +kernel
theorem dX10_command_203 : decode cX10_command 203 = .ok (.if_icmp .ge 23, 3) := by decide +kernel
theorem dX10_command_206 : decode cX10_command 206 = .ok (.aload_n 0, 1) := by decide +kernel
theorem dX10_command_207 : decode cX10_command 207 = .ok (.aload_n 0, 1) := by decide +kernel
theorem dX10_command_208 : decode cX10_command 208 = .ok (.getfield 207, 3) := by decide +kernel
theorem dX10_command_211 : decode cX10_command 211 = .ok (.aload_n 0, 1) := by decide +kernel
theorem dX10_command_212 : decode cX10_command 212 = .ok (.getfield 140, 3) := by decide +kernel
theorem dX10_command_215 : decode cX10_command 215 = .ok (.iload_n 2, 1) := by decide +kernel
theorem dX10_command_216 : decode cX10_command 216 = .ok (.iaload, 1) := by decide +kernel
theorem dX10_command_217 : decode cX10_command 217 = .ok (.invokevirtual 311, 3) := by decide +kernel
theorem dX10_command_220 : decode cX10_command 220 = .ok (.iinc 2 1, 3) := by decide +kernel
theorem dX10_command_223 : decode cX10_command 223 = .ok (.goto (-25), 3) := by decide +kernel
theorem dX10_command_226 : decode cX10_command 226 = .ok (.goto 17, 3) := by decide +kernel
theorem dX10_command_229 : decode cX10_command 229 = .ok (.iload_n 1, 1) := by decide +kernel
theorem dX10_command_230 : decode cX10_command 230 = .ok (.iconst 2, 1) := by decide +kernel
theorem dX10_command_231 : decode cX10_command 231 = .ok (.if_icmp .ne 12, 3) := by decide +kernel
theorem dX10_command_234 : decode cX10_command 234 = .ok (.aload_n 0, 1) := by decide +kernel
theorem dX10_command_235 : decode cX10_command 235 = .ok (.aload_n 0, 1) := by decide +kernel
theorem dX10_command_236 : decode cX10_command 236 = .ok (.getfield 207, 3) := by decide +kernel
theorem dX10_command_239 : decode cX10_command 239 = .ok (.iconst 2, 1) := by decide +kernel
theorem dX10_command_240 : decode cX10_command 240 = .ok (.invokevirtual 311, 3) := by decide +kernel
theorem dX10_command_243 : decode cX10_command 243 = .ok (.return_, 1) := by decide +kernel
theorem dX10_key_0 : decode cX10_key 0 = .ok (.aload_n 0, 1) := by decide +kernel
theorem dX10_key_1 : decode cX10_key 1 = .ok (.iload_n 1, 1) := by decide +kernel
theorem dX10_key_2 : decode cX10_key 2 = .ok (.ifCond .lt 10, 3) := by decide +kernel
theorem dX10_key_5 : decode cX10_key 5 = .ok (.iload_n 1, 1) := by decide +kernel
theorem dX10_key_6 : decode cX10_key 6 = .ok (.sipush 255, 3) := by decide +kernel
theorem dX10_key_9 : decode cX10_key 9 = .ok (.if_icmp .le 7, 3) := by decide +kernel
theorem dX10_key_12 : decode cX10_key 12 = .ok (.iconst 1, 1) := by decide +kernel
theorem dX10_key_13 : decode cX10_key 13 = .ok (.goto 4, 3) := by decide +kernel
theorem dX10_key_16 : decode cX10_key 16 = .ok (.iconst 0, 1) := by decide +kernel
theorem dX10_key_17 : decode cX10_key 17 = .ok (.putfield 173, 3) := by decide +kernel
theorem dX10_key_20 : decode cX10_key 20 = .ok (.aload_n 0, 1) := by decide +kernel
theorem dX10_key_21 : decode cX10_key 21 = .ok (.getfield 173, 3) := by decide +kernel
theorem dX10_key_24 : decode cX10_key 24 = .ok (.ifCond .le 5, 3) := by decide +kernel
theorem dX10_key_27 : decode cX10_key 27 = .ok (.iconst 0, 1) := by decide +kernel
theorem dX10_key_28 : decode cX10_key 28 = .ok (.ireturn, 1) := by decide +kernel
theorem dX10_key_29 : decode cX10_key 29 = .ok (.aload_n 0, 1) := by decide +kernel
theorem dX10_key_30 : decode cX10_key 30 = .ok (.getfield 314, 3) := by decide +kernel
theorem dX10_key_33 : decode cX10_key 33 = .ok (.ifCond .eq 16, 3) := by decide +kernel
theorem dX10_key_36 : decode cX10_key 36 = .ok (.aload_n 0, 1) := by decide +kernel
theorem dX10_key_37 : decode cX10_key 37 = .ok (.iconst 0, 1) := by decide +kernel
theorem dX10_key_38 : decode cX10_key 38 = .ok (.putfield 314, 3) := by decide +kernel
theorem dX10_key_41 : decode cX10_key 41 = .ok (.aload_n 0, 1) := by decide +kernel
theorem dX10_key_42 : decode cX10_key 42 = .ok (.iload_n 1, 1) := by decide +kernel
theorem dX10_key_43 : decode cX10_key 43 = .ok (.invokevirtual 317, 3) := by decide +kernel
theorem dX10_key_46 : decode cX10_key 46 = .ok (.goto 100, 3) := by decide +kernel
theorem dX10_key_49 : decode cX10_key 49 = .ok (.iload_n 1, 1) := by decide +kernel
theorem dX10_key_50 : decode cX10_key 50 = .ok (.iconst 2, 1) := by decide +kernel
theorem dX10_key_51 : decode cX10_key 51 = .ok (.if_icmp .ne 11, 3) := by decide +kernel
theorem dX10_key_54 : decode cX10_key 54 = .ok (.aload_n 0, 1) := by decide +kernel
theorem dX10_key_55 : decode cX10_key 55 = .ok (.iconst 1, 1) := by decide +kernel
theorem dX10_key_56 : decode cX10_key 56 = .ok (.putfield 314, 3) := by decide +kernel
theorem dX10_key_59 : decode cX10_key 59 = .ok (.goto 87, 3) := by decide +kernel
theorem dX10_key_62 : decode cX10_key 62 = .ok (.aload_n 0, 1) := by decide +kernel
theorem dX10_key_63 : decode cX10_key 63 = .ok (.getfield 128, 3) := by decide +kernel
theorem dX10_key_66 : decode cX10_key 66 = .ok (.aload_n 0, 1) := by decide +kernel
theorem dX10_key_67 : decode cX10_key 67 = .ok (.getfield 207, 3) := by decide +kernel
theorem dX10_key_70 : decode cX10_key 70 = .ok (.baload, 1) := by decide +kernel
theorem dX10_key_71 : decode cX10_key 71 = .ok (.ifCond .ne 15, 3) := by decide +kernel
theorem dX10_key_74 : decode cX10_key 74 = .ok (.aload_n 0, 1) := by decide +kernel
theorem dX10_key_75 : decode cX10_key 75 = .ok (.aload_n 0, 1) := by decide +kernel
theorem dX10_key_76 : decode cX10_key 76 = .ok (.getfield 207, 3) := by decide +kernel
theorem dX10_key_79 : decode cX10_key 79 = .ok (.iload_n 1, 1) := by decide +kernel
theorem dX10_key_80 : decode cX10_key 80 = .ok (.invokevirtual 311, 3) := by decide +kernel
theorem dX10_key_83 : decode cX10_key 83 = .ok (.goto 63, 3) := by decide +kernel
theorem dX10_key_86 : decode cX10_key 86 = .ok (.iload_n 1, 1) := by decide +kernel
theorem dX10_key_87 : decode cX10_key 87 = .ok (.bipush 107, 2) := by decide +kernel
theorem dX10_key_89 : decode cX10_key 89 = .ok (.if_icmp .eq 9, 3) := by decide +kernel
theorem dX10_key_92 : decode cX10_key 92 = .ok (.iload_n 1, 1) := by decide +kernel
theorem dX10_key_93 : decode cX10_key 93 = .ok (.bipush 106, 2) := by decide +kernel
theorem dX10_key_95 : decode cX10_key 95 = .ok (.if_icmp .ne 25, 3) := by decide +kernel
theorem dX10_key_98 : decode cX10_key 98 = .ok (.aload_n 0, 1) := by decide +kernel
theorem dX10_key_99 : decode cX10_key 99 = .ok (.aload_n 0, 1) := by decide +kernel
theorem dX10_key_100 : decode cX10_key 100 = .ok (.getfield 207, 3) := by decide +kernel
theorem dX10_key_103 : decode cX10_key 103 = .ok (.iload_n 1, 1) := by decide +kernel
theorem dX10_key_104 : decode cX10_key 104 = .ok (.bipush 107, 2) := by decide +kernel
theorem dX10_key_106 : decode cX10_key 106 = .ok (.if_icmp .ne 7, 3) := by decide +kernel
theorem dX10_key_109 : decode cX10_key 109 = .ok (.iconst 1, 1) := by decide +kernel
theorem dX10_key_110 : decode cX10_key 110 = .ok (.goto 4, 3) := by decide +kernel
theorem dX10_key_113 : decode cX10_key 113 = .ok (.iconst (-1), 1) := by decide +kernel
theorem dX10_key_114 : decode cX10_key 114 = .ok (.invokevirtual 320, 3) := by decide +kernel
theorem dX10_key_117 : decode cX10_key 117 = .ok (.goto 29, 3) := by decide +kernel
theorem dX10_key_120 : decode cX10_key 120 = .ok (.iload_n 1, 1) := by decide +kernel
theorem dX10_key_121 : decode cX10_key 121 = .ok (.bipush 113, 2) := by decide +kernel
theorem dX10_key_123 : decode cX10_key 123 = .ok (.if_icmp .ne 23, 3) := by decide +kernel
theorem dX10_key_126 : decode cX10_key 126 = .ok (.aload_n 0, 1) := by decide +kernel
theorem dX10_key_127 : decode cX10_key 127 = .ok (.getfield 128, 3) := by decide +kernel
theorem dX10_key_130 : decode cX10_key 130 = .ok (.aload_n 0, 1) := by decide +kernel
theorem dX10_key_131 : decode cX10_key 131 = .ok (.getfield 207, 3) := by decide +kernel
theorem dX10_key_134 : decode cX10_key 134 = .ok (.iconst 0, 1) := by decide +kernel
theorem dX10_key_135 : decode cX10_key 135 = .ok (.bastore, 1) := by decide +kernel
theorem dX10_key_136 : decode cX10_key 136 = .ok (.aload_n 0, 1) := by decide +kernel
theorem dX10_key_137 : decode cX10_key 137 = .ok (.getfield 131, 3) := by decide +kernel
theorem dX10_key_140 : decode cX10_key 140 = .ok (.aload_n 0, 1) := by decide +kernel
theorem dX10_key_141 : decode cX10_key 141 = .ok (.getfield 207, 3) := by decide +kernel
theorem dX10_key_144 : decode cX10_key 144 = .ok (.iconst 0, 1) := by decide +kernel
theorem dX10_key_145 : decode cX10_key 145 = .ok (.iastore, 1) := by decide +kernel
theorem dX10_key_146 : decode cX10_key 146 = .ok (.aload_n 0, 1) := by decide +kernel
theorem dX10_key_147 : decode cX10_key 147 = .ok (.getfield 207, 3) := by decide +kernel
theorem dX10_key_150 : decode cX10_key 150 = .ok (.ireturn, 1) := by decide +kernel
theorem dX10_copy_0 : decode cX10_copy 0 = .ok (.aload_n 0, 1) := by decide +kernel
theorem dX10_copy_1 : decode cX10_copy 1 = .ok (.aload_n 0, 1) := by decide +kernel
theorem dX10_copy_2 : decode cX10_copy 2 = .ok (.iload_n 1, 1) := by decide +kernel
theorem dX10_copy_3 : decode cX10_copy 3 = .ok (.invokevirtual 213, 3) := by decide +kernel
theorem dX10_copy_6 : decode cX10_copy 6 = .ok (.ifCond .eq 7, 3) := by decide +kernel
theorem dX10_copy_9 : decode cX10_copy 9 = .ok (.iconst 1, 1) := by decide +kernel
theorem dX10_copy_10 : decode cX10_copy 10 = .ok (.goto 4, 3) := by decide +kernel
theorem dX10_copy_13 : decode cX10_copy 13 = .ok (.iconst 0, 1) := by decide +kernel
theorem dX10_copy_14 : decode cX10_copy 14 = .ok (.putfield 173, 3) := by decide +kernel
theorem dX10_copy_17 : decode cX10_copy 17 = .ok (.aload_n 0, 1) := by decide +kernel
theorem dX10_copy_18 : decode cX10_copy 18 = .ok (.getfield 173, 3) := by decide +kernel
theorem dX10_copy_21 : decode cX10_copy 21 = .ok (.ifCond .le 5, 3) := by decide +kernel
theorem dX10_copy_24 : decode cX10_copy 24 = .ok (.iconst 0, 1) := by decide +kernel
theorem dX10_copy_25 : decode cX10_copy 25 = .ok (.ireturn, 1) := by decide +kernel
theorem dX10_copy_26 : decode cX10_copy 26 = .ok (.aload_n 0, 1) := by decide +kernel
theorem dX10_copy_27 : decode cX10_copy 27 = .ok (.getfield 131, 3) := by decide +kernel
theorem dX10_copy_30 : decode cX10_copy 30 = .ok (.iload_n 1, 1) := by decide +kernel
theorem dX10_copy_31 : decode cX10_copy 31 = .ok (.iload_n 2, 1) := by decide +kernel
theorem dX10_copy_32 : decode cX10_copy 32 = .ok (.ifCond .eq 21, 3) := by decide +kernel
theorem dX10_copy_35 : decode cX10_copy 35 = .ok (.aload_n 0, 1) := by decide +kernel
theorem dX10_copy_36 : decode cX10_copy 36 = .ok (.getfield 128, 3) := by decide +kernel
theorem dX10_copy_39 : decode cX10_copy 39 = .ok (.iload_n 1, 1) := by decide +kernel
theorem dX10_copy_40 : decode cX10_copy 40 = .ok (.baload, 1) := by decide +kernel
theorem dX10_copy_41 : decode cX10_copy 41 = .ok (.ifCond .eq 12, 3) := by decide +kernel
theorem dX10_copy_44 : decode cX10_copy 44 = .ok (.aload_n 0, 1) := by decide +kernel
theorem dX10_copy_45 : decode cX10_copy 45 = .ok (.getfield 131, 3) := by decide +kernel
theorem dX10_copy_48 : decode cX10_copy 48 = .ok (.iload_n 1, 1) := by decide +kernel
theorem dX10_copy_49 : decode cX10_copy 49 = .ok (.iaload, 1) := by decide +kernel
theorem dX10_copy_50 : decode cX10_copy 50 = .ok (.goto 4, 3) := by decide +kernel
theorem dX10_copy_53 : decode cX10_copy 53 = .ok (.iconst 0, 1) := by decide +kernel
theorem dX10_copy_54 : decode cX10_copy 54 = .ok (.iastore, 1) := by decide +kernel
theorem dX10_copy_55 : decode cX10_copy 55 = .ok (.aload_n 0, 1) := by decide +kernel
theorem dX10_copy_56 : decode cX10_copy 56 = .ok (.getfield 128, 3) := by decide +kernel
theorem dX10_copy_59 : decode cX10_copy 59 = .ok (.iload_n 1, 1) := by decide +kernel
theorem dX10_copy_60 : decode cX10_copy 60 = .ok (.iload_n 2, 1) := by decide +kernel
theorem dX10_copy_61 : decode cX10_copy 61 = .ok (.bastore, 1) := by decide +kernel
theorem dX10_copy_62 : decode cX10_copy 62 = .ok (.iload_n 2, 1) := by decide +kernel
theorem dX10_copy_63 : decode cX10_copy 63 = .ok (.ifCond .eq 9, 3) := by decide +kernel
theorem dX10_copy_66 : decode cX10_copy 66 = .ok (.aload_n 0, 1) := by decide +kernel
theorem dX10_copy_67 : decode cX10_copy 67 = .ok (.iload_n 1, 1) := by decide +kernel
theorem dX10_copy_68 : decode cX10_copy 68 = .ok (.iload_n 3, 1) := by decide +kernel
theorem dX10_copy_69 : decode cX10_copy 69 = .ok (.invokevirtual 320, 3) := by decide +kernel
theorem dX10_copy_72 : decode cX10_copy 72 = .ok (.aload_n 0, 1) := by decide +kernel
theorem dX10_copy_73 : decode cX10_copy 73 = .ok (.iload_n 1, 1) := by decide +kernel
theorem dX10_copy_74 : decode cX10_copy 74 = .ok (.invokevirtual 305, 3) := by decide +kernel
theorem dX10_copy_77 : decode cX10_copy 77 = .ok (.ireturn, 1) := by decide +kernel
theorem dX10_shows_0 : decode cX10_shows 0 = .ok (.iload_n 2, 1) := by decide +kernel
theorem dX10_shows_1 : decode cX10_shows 1 = .ok (.aload_n 0, 1) := by decide +kernel
theorem dX10_shows_2 : decode cX10_shows 2 = .ok (.iload_n 1, 1) := by decide +kernel
theorem dX10_shows_3 : decode cX10_shows 3 = .ok (.invokevirtual 305, 3) := by decide +kernel
theorem dX10_shows_6 : decode cX10_shows 6 = .ok (.isub, 1) := by decide +kernel
theorem dX10_shows_7 : decode cX10_shows 7 = .ok (.istore 5, 2) := by decide +kernel
theorem dX10_shows_9 : decode cX10_shows 9 = .ok (.iload 5, 2) := by decide +kernel
theorem dX10_shows_11 : decode cX10_shows 11 = .ok (.ifCond .ge 42, 3) := by decide +kernel
theorem dX10_shows_14 : decode cX10_shows 14 = .ok (.iload_n 1, 1) := by decide +kernel
theorem dX10_shows_15 : decode cX10_shows 15 = .ok (.aload_n 0, 1) := by decide +kernel
theorem dX10_shows_16 : decode cX10_shows 16 = .ok (.getfield 125, 3) := by decide +kernel
theorem dX10_shows_19 : decode cX10_shows 19 = .ok (.iload_n 1, 1) := by decide +kernel
theorem dX10_shows_20 : decode cX10_shows 20 = .ok (.iaload, 1) := by decide +kernel
theorem dX10_shows_21 : decode cX10_shows 21 = .ok (.iload 5, 2) := by decide +kernel
theorem dX10_shows_23 : decode cX10_shows 23 = .ok (.iadd, 1) := by decide +kernel
theorem dX10_shows_24 : decode cX10_shows 24 = .ok (.iload_n 3, 1) := by decide +kernel
theorem dX10_shows_25 : decode cX10_shows 25 = .ok (.invokestatic 235, 3) := by decide +kernel
theorem dX10_shows_28 : decode cX10_shows 28 = .ok (.istore 6, 2) := by decide +kernel
theorem dX10_shows_30 : decode cX10_shows 30 = .ok (.iload 4, 2) := by decide +kernel
theorem dX10_shows_32 : decode cX10_shows 32 = .ok (.ifCond .eq 13, 3) := by decide +kernel
theorem dX10_shows_35 : decode cX10_shows 35 = .ok (.aload_n 0, 1) := by decide +kernel
theorem dX10_shows_36 : decode cX10_shows 36 = .ok (.getfield 122, 3) := by decide +kernel
theorem dX10_shows_39 : decode cX10_shows 39 = .ok (.iload 6, 2) := by decide +kernel
theorem dX10_shows_41 : decode cX10_shows 41 = .ok (.iaload, 1) := by decide +kernel
theorem dX10_shows_42 : decode cX10_shows 42 = .ok (.goto 10, 3) := by decide +kernel
theorem dX10_shows_45 : decode cX10_shows 45 = .ok (.aload_n 0, 1) := by decide +kernel
theorem dX10_shows_46 : decode cX10_shows 46 = .ok (.getfield 119, 3) := by decide +kernel
theorem dX10_shows_49 : decode cX10_shows 49 = .ok (.iload 6, 2) := by decide +kernel
theorem dX10_shows_51 : decode cX10_shows 51 = .ok (.iaload, 1) := by decide +kernel
theorem dX10_shows_52 : decode cX10_shows 52 = .ok (.ireturn, 1) := by decide +kernel
theorem dX10_shows_53 : decode cX10_shows 53 = .ok (.iload 4, 2) := by decide +kernel
theorem dX10_shows_55 : decode cX10_shows 55 = .ok (.ifCond .eq 19, 3) := by decide +kernel
theorem dX10_shows_58 : decode cX10_shows 58 = .ok (.aload_n 0, 1) := by decide +kernel
theorem dX10_shows_59 : decode cX10_shows 59 = .ok (.getfield 62, 3) := by decide +kernel
theorem dX10_shows_62 : decode cX10_shows 62 = .ok (.aload_n 0, 1) := by decide +kernel
theorem dX10_shows_63 : decode cX10_shows 63 = .ok (.iload_n 1, 1) := by decide +kernel
theorem dX10_shows_64 : decode cX10_shows 64 = .ok (.iload 5, 2) := by decide +kernel
theorem dX10_shows_66 : decode cX10_shows 66 = .ok (.iload_n 3, 1) := by decide +kernel
theorem dX10_shows_67 : decode cX10_shows 67 = .ok (.invokevirtual 231, 3) := by decide +kernel
theorem dX10_shows_70 : decode cX10_shows 70 = .ok (.iaload, 1) := by decide +kernel
theorem dX10_shows_71 : decode cX10_shows 71 = .ok (.goto 16, 3) := by decide +kernel
theorem dX10_shows_74 : decode cX10_shows 74 = .ok (.aload_n 0, 1) := by decide +kernel
theorem dX10_shows_75 : decode cX10_shows 75 = .ok (.getfield 59, 3) := by decide +kernel
theorem dX10_shows_78 : decode cX10_shows 78 = .ok (.aload_n 0, 1) := by decide +kernel
theorem dX10_shows_79 : decode cX10_shows 79 = .ok (.iload_n 1, 1) := by decide +kernel
theorem dX10_shows_80 : decode cX10_shows 80 = .ok (.iload 5, 2) := by decide +kernel
theorem dX10_shows_82 : decode cX10_shows 82 = .ok (.iload_n 3, 1) := by decide +kernel
theorem dX10_shows_83 : decode cX10_shows 83 = .ok (.invokevirtual 231, 3) := by decide +kernel
theorem dX10_shows_86 : decode cX10_shows 86 = .ok (.iaload, 1) := by decide +kernel
theorem dX10_shows_87 : decode cX10_shows 87 = .ok (.ireturn, 1) := by decide +kernel
theorem dX10_copyOne_0 : decode cX10_copyOne 0 = .ok (.aload_n 0, 1) := by decide +kernel
theorem dX10_copyOne_1 : decode cX10_copyOne 1 = .ok (.getfield 308, 3) := by decide +kernel
theorem dX10_copyOne_4 : decode cX10_copyOne 4 = .ok (.sipush 400, 3) := by decide +kernel
theorem dX10_copyOne_7 : decode cX10_copyOne 7 = .ok (.if_icmp .ge 23, 3) := by decide +kernel
theorem dX10_copyOne_10 : decode cX10_copyOne 10 = .ok (.aload_n 0, 1) := by decide +kernel
theorem dX10_copyOne_11 : decode cX10_copyOne 11 = .ok (.getfield 140, 3) := by decide +kernel
theorem dX10_copyOne_14 : decode cX10_copyOne 14 = .ok (.aload_n 0, 1) := by decide +kernel
theorem dX10_copyOne_15 : decode cX10_copyOne 15 = .ok (.getfield 308, 3) := by decide +kernel
theorem dX10_copyOne_18 : decode cX10_copyOne 18 = .ok (.iload_n 1, 1) := by decide +kernel
theorem dX10_copyOne_19 : decode cX10_copyOne 19 = .ok (.iastore, 1) := by decide +kernel
theorem dX10_copyOne_20 : decode cX10_copyOne 20 = .ok (.aload_n 0, 1) := by decide +kernel
theorem dX10_copyOne_21 : decode cX10_copyOne 21 = .ok (.dup, 1) := by decide +kernel
theorem dX10_copyOne_22 : decode cX10_copyOne 22 = .ok (.getfield 308, 3) := by decide +kernel
theorem dX10_copyOne_25 : decode cX10_copyOne 25 = .ok (.iconst 1, 1) := by decide +kernel
theorem dX10_copyOne_26 : decode cX10_copyOne 26 = .ok (.iadd, 1) := by decide +kernel
theorem dX10_copyOne_27 : decode cX10_copyOne 27 = .ok (.putfield 308, 3) := by decide +kernel
theorem dX10_copyOne_30 : decode cX10_copyOne 30 = .ok (.return_, 1) := by decide +kernel
theorem dX10_isIn_0 : decode cX10_isIn 0 = .ok (.iload_n 2, 1) := by decide +kernel
theorem dX10_isIn_1 : decode cX10_isIn 1 = .ok (.ifCond .lt 31, 3) := by decide +kernel
theorem dX10_isIn_4 : decode cX10_isIn 4 = .ok (.iload_n 2, 1) := by decide +kernel
theorem dX10_isIn_5 : decode cX10_isIn 5 = .ok (.aload_n 0, 1) := by decide +kernel
theorem dX10_isIn_6 : decode cX10_isIn 6 = .ok (.getfield 56, 3) := by decide +kernel
theorem dX10_isIn_9 : decode cX10_isIn 9 = .ok (.iload_n 1, 1) := by decide +kernel
theorem dX10_isIn_10 : decode cX10_isIn 10 = .ok (.iaload, 1) := by decide +kernel
theorem dX10_isIn_11 : decode cX10_isIn 11 = .ok (.if_icmp .ge 21, 3) := by decide +kernel
theorem dX10_isIn_14 : decode cX10_isIn 14 = .ok (.iload_n 3, 1) := by decide +kernel
theorem dX10_isIn_15 : decode cX10_isIn 15 = .ok (.ifCond .lt 17, 3) := by decide +kernel
theorem dX10_isIn_18 : decode cX10_isIn 18 = .ok (.iload_n 3, 1) := by decide +kernel
theorem dX10_isIn_19 : decode cX10_isIn 19 = .ok (.aload_n 0, 1) := by decide +kernel
theorem dX10_isIn_20 : decode cX10_isIn 20 = .ok (.getfield 53, 3) := by decide +kernel
theorem dX10_isIn_23 : decode cX10_isIn 23 = .ok (.iload_n 1, 1) := by decide +kernel
theorem dX10_isIn_24 : decode cX10_isIn 24 = .ok (.iaload, 1) := by decide +kernel
theorem dX10_isIn_25 : decode cX10_isIn 25 = .ok (.if_icmp .ge 7, 3) := by decide +kernel
theorem dX10_isIn_28 : decode cX10_isIn 28 = .ok (.iconst 1, 1) := by decide +kernel
theorem dX10_isIn_29 : decode cX10_isIn 29 = .ok (.goto 4, 3) := by decide +kernel
theorem dX10_isIn_32 : decode cX10_isIn 32 = .ok (.iconst 0, 1) := by decide +kernel
theorem dX10_isIn_33 : decode cX10_isIn 33 = .ok (.ireturn, 1) := by decide +kernel
theorem dX10_select_0 : decode cX10_select 0 = .ok (.aload_n 0, 1) := by decide +kernel
theorem dX10_select_1 : decode cX10_select 1 = .ok (.aload_n 0, 1) := by decide +kernel
theorem dX10_select_2 : decode cX10_select 2 = .ok (.iload_n 1, 1) := by decide +kernel
theorem dX10_select_3 : decode cX10_select 3 = .ok (.invokevirtual 213, 3) := by decide +kernel
theorem dX10_select_6 : decode cX10_select 6 = .ok (.ifCond .ne 25, 3) := by decide +kernel
theorem dX10_select_9 : decode cX10_select 9 = .ok (.aload_n 0, 1) := by decide +kernel
theorem dX10_select_10 : decode cX10_select 10 = .ok (.iload_n 1, 1) := by decide +kernel
theorem dX10_select_11 : decode cX10_select 11 = .ok (.iload_n 2, 1) := by decide +kernel
theorem dX10_select_12 : decode cX10_select 12 = .ok (.iload_n 3, 1) := by decide +kernel
theorem dX10_select_13 : decode cX10_select 13 = .ok (.invokevirtual 323, 3) := by decide +kernel
theorem dX10_select_16 : decode cX10_select 16 = .ok (.ifCond .eq 15, 3) := by decide +kernel
theorem dX10_select_19 : decode cX10_select 19 = .ok (.aload_n 0, 1) := by decide +kernel
theorem dX10_select_20 : decode cX10_select 20 = .ok (.iload_n 1, 1) := by decide +kernel
theorem dX10_select_21 : decode cX10_select 21 = .ok (.iload 4, 2) := by decide +kernel
theorem dX10_select_23 : decode cX10_select 23 = .ok (.iload 5, 2) := by decide +kernel
theorem dX10_select_25 : decode cX10_select 25 = .ok (.invokevirtual 323, 3) := by decide +kernel
theorem dX10_select_28 : decode cX10_select 28 = .ok (.ifCond .ne 7, 3) := by decide +kernel
theorem dX10_select_31 : decode cX10_select 31 = .ok (.iconst 1, 1) := by decide +kernel
theorem dX10_select_32 : decode cX10_select 32 = .ok (.goto 26, 3) := by decide +kernel
theorem dX10_select_35 : decode cX10_select 35 = .ok (.iload 4, 2) := by decide +kernel
theorem dX10_select_37 : decode cX10_select 37 = .ok (.iload_n 2, 1) := by decide +kernel
theorem dX10_select_38 : decode cX10_select 38 = .ok (.if_icmp .lt 15, 3) := by decide +kernel
theorem dX10_select_41 : decode cX10_select 41 = .ok (.iload 4, 2) := by decide +kernel
theorem dX10_select_43 : decode cX10_select 43 = .ok (.iload_n 2, 1) := by decide +kernel
theorem dX10_select_44 : decode cX10_select 44 = .ok (.if_icmp .ne 13, 3) := by decide +kernel
theorem dX10_select_47 : decode cX10_select 47 = .ok (.iload 5, 2) := by decide +kernel
theorem dX10_select_49 : decode cX10_select 49 = .ok (.iload_n 3, 1) := by decide +kernel
theorem dX10_select_50 : decode cX10_select 50 = .ok (.if_icmp .ge 7, 3) := by decide +kernel
theorem dX10_select_53 : decode cX10_select 53 = .ok (.iconst 2, 1) := by decide +kernel
theorem dX10_select_54 : decode cX10_select 54 = .ok (.goto 4, 3) := by decide +kernel
theorem dX10_select_57 : decode cX10_select 57 = .ok (.iconst 0, 1) := by decide +kernel
theorem dX10_select_58 : decode cX10_select 58 = .ok (.putfield 173, 3) := by decide +kernel
theorem dX10_select_61 : decode cX10_select 61 = .ok (.aload_n 0, 1) := by decide +kernel
theorem dX10_select_62 : decode cX10_select 62 = .ok (.getfield 173, 3) := by decide +kernel
theorem dX10_select_65 : decode cX10_select 65 = .ok (.ifCond .le 5, 3) := by decide +kernel
theorem dX10_select_68 : decode cX10_select 68 = .ok (.iconst 0, 1) := by decide +kernel
theorem dX10_select_69 : decode cX10_select 69 = .ok (.ireturn, 1) := by decide +kernel
theorem dX10_select_70 : decode cX10_select 70 = .ok (.aload_n 0, 1) := by decide +kernel
theorem dX10_select_71 : decode cX10_select 71 = .ok (.iconst 0, 1) := by decide +kernel
theorem dX10_select_72 : decode cX10_select 72 = .ok (.putfield 308, 3) := by decide +kernel
theorem dX10_select_75 : decode cX10_select 75 = .ok (.iload_n 2, 1) := by decide +kernel
theorem dX10_select_76 : decode cX10_select 76 = .ok (.istore 6, 2) := by decide +kernel
theorem dX10_select_78 : decode cX10_select 78 = .ok (.iload 6, 2) := by decide +kernel
theorem dX10_select_80 : decode cX10_select 80 = .ok (.iload 4, 2) := by decide +kernel
theorem dX10_select_82 : decode cX10_select 82 = .ok (.if_icmp .gt 115, 3) := by decide +kernel
theorem dX10_select_85 : decode cX10_select 85 = .ok (.iload 6, 2) := by decide +kernel
theorem dX10_select_87 : decode cX10_select 87 = .ok (.iload_n 2, 1) := by decide +kernel
theorem dX10_select_88 : decode cX10_select 88 = .ok (.if_icmp .ne 7, 3) := by decide +kernel
theorem dX10_select_91 : decode cX10_select 91 = .ok (.iload_n 3, 1) := by decide +kernel
theorem dX10_select_92 : decode cX10_select 92 = .ok (.goto 4, 3) := by decide +kernel
theorem dX10_select_95 : decode cX10_select 95 = .ok (.iconst 0, 1) := by decide +kernel
theorem dX10_select_96 : decode cX10_select 96 = .ok (.istore 7, 2) := by decide +kernel
theorem dX10_select_98 : decode cX10_select 98 = .ok (.iload 6, 2) := by decide +kernel
theorem dX10_select_100 : decode cX10_select 100 = .ok (.iload 4, 2) := by decide +kernel
theorem dX10_select_102 : decode cX10_select 102 = .ok (.if_icmp .ne 8, 3) := by decide +kernel
theorem dX10_select_105 : decode cX10_select 105 = .ok (.iload 5, 2) := by decide +kernel
theorem dX10_select_107 : decode cX10_select 107 = .ok (.goto 11, 3) := by decide +kernel
theorem dX10_select_110 : decode cX10_select 110 = .ok (.aload_n 0, 1) := by decide +kernel
theorem dX10_select_111 : decode cX10_select 111 = .ok (.getfield 53, 3) := by decide +kernel
theorem dX10_select_114 : decode cX10_select 114 = .ok (.iload_n 1, 1) := by decide +kernel
theorem dX10_select_115 : decode cX10_select 115 = .ok (.iaload, 1) := by decide +kernel
theorem dX10_select_116 : decode cX10_select 116 = .ok (.iconst 1, 1) := by decide +kernel
theorem dX10_select_117 : decode cX10_select 117 = .ok (.isub, 1) := by decide +kernel
theorem dX10_select_118 : decode cX10_select 118 = .ok (.istore 8, 2) := by decide +kernel
theorem dX10_select_120 : decode cX10_select 120 = .ok (.iload 8, 2) := by decide +kernel
theorem dX10_select_122 : decode cX10_select 122 = .ok (.iload 7, 2) := by decide +kernel
theorem dX10_select_124 : decode cX10_select 124 = .ok (.if_icmp .lt 24, 3) := by decide +kernel
theorem dX10_select_127 : decode cX10_select 127 = .ok (.aload_n 0, 1) := by decide +kernel
theorem dX10_select_128 : decode cX10_select 128 = .ok (.iload_n 1, 1) := by decide +kernel
theorem dX10_select_129 : decode cX10_select 129 = .ok (.iload 6, 2) := by decide +kernel
theorem dX10_select_131 : decode cX10_select 131 = .ok (.iload 8, 2) := by decide +kernel
theorem dX10_select_133 : decode cX10_select 133 = .ok (.iconst 0, 1) := by decide +kernel
theorem dX10_select_134 : decode cX10_select 134 = .ok (.invokevirtual 327, 3) := by decide +kernel
theorem dX10_select_137 : decode cX10_select 137 = .ok (.bipush 32, 2) := by decide +kernel
theorem dX10_select_139 : decode cX10_select 139 = .ok (.if_icmp .ne 9, 3) := by decide +kernel
theorem dX10_select_142 : decode cX10_select 142 = .ok (.iinc 8 (-1), 3) := by decide +kernel
theorem dX10_select_145 : decode cX10_select 145 = .ok (.goto (-25), 3) := by decide +kernel
theorem dX10_select_148 : decode cX10_select 148 = .ok (.iload 6, 2) := by decide +kernel
theorem dX10_select_150 : decode cX10_select 150 = .ok (.iload_n 2, 1) := by decide +kernel
theorem dX10_select_151 : decode cX10_select 151 = .ok (.if_icmp .le 9, 3) := by decide +kernel
theorem dX10_select_154 : decode cX10_select 154 = .ok (.aload_n 0, 1) := by decide +kernel
theorem dX10_select_155 : decode cX10_select 155 = .ok (.bipush 10, 2) := by decide +kernel
theorem dX10_select_157 : decode cX10_select 157 = .ok (.invokevirtual 331, 3) := by decide +kernel
theorem dX10_select_160 : decode cX10_select 160 = .ok (.iload 7, 2) := by decide +kernel
theorem dX10_select_162 : decode cX10_select 162 = .ok (.istore 9, 2) := by decide +kernel
theorem dX10_select_164 : decode cX10_select 164 = .ok (.iload 9, 2) := by decide +kernel
theorem dX10_select_166 : decode cX10_select 166 = .ok (.iload 8, 2) := by decide +kernel
theorem dX10_select_168 : decode cX10_select 168 = .ok (.if_icmp .gt 23, 3) := by decide +kernel
theorem dX10_select_171 : decode cX10_select 171 = .ok (.aload_n 0, 1) := by decide +kernel
theorem dX10_select_172 : decode cX10_select 172 = .ok (.aload_n 0, 1) := by decide +kernel
theorem dX10_select_173 : decode cX10_select 173 = .ok (.iload_n 1, 1) := by decide +kernel
theorem dX10_select_174 : decode cX10_select 174 = .ok (.iload 6, 2) := by decide +kernel
theorem dX10_select_176 : decode cX10_select 176 = .ok (.iload 9, 2) := by decide +kernel
theorem dX10_select_178 : decode cX10_select 178 = .ok (.iconst 0, 1) := by decide +kernel
theorem dX10_select_179 : decode cX10_select 179 = .ok (.invokevirtual 327, 3) := by decide +kernel
theorem dX10_select_182 : decode cX10_select 182 = .ok (.invokevirtual 331, 3) := by decide +kernel
theorem dX10_select_185 : decode cX10_select 185 = .ok (.iinc 9 1, 3) := by decide +kernel
theorem dX10_select_188 : decode cX10_select 188 = .ok (.goto (-24), 3) := by decide +kernel
theorem dX10_select_191 : decode cX10_select 191 = .ok (.iinc 6 1, 3) := by decide +kernel
theorem dX10_select_194 : decode cX10_select 194 = .ok (.goto (-116), 3) := by decide +kernel
theorem dX10_select_197 : decode cX10_select 197 = .ok (.aload_n 0, 1) := by decide +kernel
theorem dX10_select_198 : decode cX10_select 198 = .ok (.getfield 308, 3) := by decide +kernel
theorem dX10_select_201 : decode cX10_select 201 = .ok (.ireturn, 1) := by decide +kernel
theorem dX10_picture_0 : decode cX10_picture 0 = .ok (.iconst 0, 1) := by decide +kernel
theorem dX10_picture_1 : decode cX10_picture 1 = .ok (.istore 4, 2) := by decide +kernel
theorem dX10_picture_3 : decode cX10_picture 3 = .ok (.iload 4, 2) := by decide +kernel
theorem dX10_picture_5 : decode cX10_picture 5 = .ok (.bipush 16, 2) := by decide +kernel
theorem dX10_picture_7 : decode cX10_picture 7 = .ok (.if_icmp .ge 215, 3) := by decide +kernel
theorem dX10_picture_10 : decode cX10_picture 10 = .ok (.aload_n 0, 1) := by decide +kernel
theorem dX10_picture_11 : decode cX10_picture 11 = .ok (.getfield 7, 3) := by decide +kernel
theorem dX10_picture_14 : decode cX10_picture 14 = .ok (.iload 4, 2) := by decide +kernel
theorem dX10_picture_16 : decode cX10_picture 16 = .ok (.baload, 1) := by decide +kernel
theorem dX10_picture_17 : decode cX10_picture 17 = .ok (.ifCond .eq 67, 3) := by decide +kernel
theorem dX10_picture_20 : decode cX10_picture 20 = .ok (.iload_n 1, 1) := by decide +kernel
theorem dX10_picture_21 : decode cX10_picture 21 = .ok (.aload_n 0, 1) := by decide +kernel
theorem dX10_picture_22 : decode cX10_picture 22 = .ok (.getfield 32, 3) := by decide +kernel
theorem dX10_picture_25 : decode cX10_picture 25 = .ok (.iload 4, 2) := by decide +kernel
theorem dX10_picture_27 : decode cX10_picture 27 = .ok (.iaload, 1) := by decide +kernel
theorem dX10_picture_28 : decode cX10_picture 28 = .ok (.if_icmp .lt 56, 3) := by decide +kernel
theorem dX10_picture_31 : decode cX10_picture 31 = .ok (.iload_n 1, 1) := by decide +kernel
theorem dX10_picture_32 : decode cX10_picture 32 = .ok (.aload_n 0, 1) := by decide +kernel
theorem dX10_picture_33 : decode cX10_picture 33 = .ok (.getfield 32, 3) := by decide +kernel
theorem dX10_picture_36 : decode cX10_picture 36 = .ok (.iload 4, 2) := by decide +kernel
theorem dX10_picture_38 : decode cX10_picture 38 = .ok (.iaload, 1) := by decide +kernel
theorem dX10_picture_39 : decode cX10_picture 39 = .ok (.aload_n 0, 1) := by decide +kernel
theorem dX10_picture_40 : decode cX10_picture 40 = .ok (.getfield 38, 3) := by decide +kernel
theorem dX10_picture_43 : decode cX10_picture 43 = .ok (.iload 4, 2) := by decide +kernel
theorem dX10_picture_45 : decode cX10_picture 45 = .ok (.iaload, 1) := by decide +kernel
theorem dX10_picture_46 : decode cX10_picture 46 = .ok (.iadd, 1) := by decide +kernel
theorem dX10_picture_47 : decode cX10_picture 47 = .ok (.if_icmp .ge 37, 3) := by decide +kernel
theorem dX10_picture_50 : decode cX10_picture 50 = .ok (.iload_n 2, 1) := by decide +kernel
theorem dX10_picture_51 : decode cX10_picture 51 = .ok (.aload_n 0, 1) := by decide +kernel
theorem dX10_picture_52 : decode cX10_picture 52 = .ok (.getfield 35, 3) := by decide +kernel
theorem dX10_picture_55 : decode cX10_picture 55 = .ok (.iload 4, 2) := by decide +kernel
theorem dX10_picture_57 : decode cX10_picture 57 = .ok (.iaload, 1) := by decide +kernel
theorem dX10_picture_58 : decode cX10_picture 58 = .ok (.if_icmp .lt 26, 3) := by decide +kernel
theorem dX10_picture_61 : decode cX10_picture 61 = .ok (.iload_n 2, 1) := by decide +kernel
theorem dX10_picture_62 : decode cX10_picture 62 = .ok (.aload_n 0, 1) := by decide +kernel
theorem dX10_picture_63 : decode cX10_picture 63 = .ok (.getfield 35, 3) := by decide +kernel
theorem dX10_picture_66 : decode cX10_picture 66 = .ok (.iload 4, 2) := by decide +kernel
theorem dX10_picture_68 : decode cX10_picture 68 = .ok (.iaload, 1) := by decide +kernel
theorem dX10_picture_69 : decode cX10_picture 69 = .ok (.aload_n 0, 1) := by decide +kernel
theorem dX10_picture_70 : decode cX10_picture 70 = .ok (.getfield 41, 3) := by decide +kernel
theorem dX10_picture_73 : decode cX10_picture 73 = .ok (.iload 4, 2) := by decide +kernel
theorem dX10_picture_75 : decode cX10_picture 75 = .ok (.iaload, 1) := by decide +kernel
theorem dX10_picture_76 : decode cX10_picture 76 = .ok (.iadd, 1) := by decide +kernel
theorem dX10_picture_77 : decode cX10_picture 77 = .ok (.if_icmp .ge 7, 3) := by decide +kernel
theorem dX10_picture_80 : decode cX10_picture 80 = .ok (.iconst 1, 1) := by decide +kernel
theorem dX10_picture_81 : decode cX10_picture 81 = .ok (.goto 4, 3) := by decide +kernel
theorem dX10_picture_84 : decode cX10_picture 84 = .ok (.iconst 0, 1) := by decide +kernel
theorem dX10_picture_85 : decode cX10_picture 85 = .ok (.istore 5, 2) := by decide +kernel
theorem dX10_picture_87 : decode cX10_picture 87 = .ok (.iload 5, 2) := by decide +kernel
theorem dX10_picture_89 : decode cX10_picture 89 = .ok (.ifCond .eq 45, 3) := by decide +kernel
theorem dX10_picture_92 : decode cX10_picture 92 = .ok (.aload_n 0, 1) := by decide +kernel
theorem dX10_picture_93 : decode cX10_picture 93 = .ok (.getfield 13, 3) := by decide +kernel
theorem dX10_picture_96 : decode cX10_picture 96 = .ok (.iload 4, 2) := by decide +kernel
theorem dX10_picture_98 : decode cX10_picture 98 = .ok (.iaload, 1) := by decide +kernel
theorem dX10_picture_99 : decode cX10_picture 99 = .ok (.iconst (-1), 1) := by decide +kernel
theorem dX10_picture_100 : decode cX10_picture 100 = .ok (.if_icmp .eq 34, 3) := by decide +kernel
theorem dX10_picture_103 : decode cX10_picture 103 = .ok (.aload_n 0, 1) := by decide +kernel
theorem dX10_picture_104 : decode cX10_picture 104 = .ok (.aload_n 0, 1) := by decide +kernel
theorem dX10_picture_105 : decode cX10_picture 105 = .ok (.getfield 13, 3) := by decide +kernel
theorem dX10_picture_108 : decode cX10_picture 108 = .ok (.iload 4, 2) := by decide +kernel
theorem dX10_picture_110 : decode cX10_picture 110 = .ok (.iaload, 1) := by decide +kernel
theorem dX10_picture_111 : decode cX10_picture 111 = .ok (.iload_n 2, 1) := by decide +kernel
theorem dX10_picture_112 : decode cX10_picture 112 = .ok (.aload_n 0, 1) := by decide +kernel
theorem dX10_picture_113 : decode cX10_picture 113 = .ok (.getfield 35, 3) := by decide +kernel
theorem dX10_picture_116 : decode cX10_picture 116 = .ok (.iload 4, 2) := by decide +kernel
theorem dX10_picture_118 : decode cX10_picture 118 = .ok (.iaload, 1) := by decide +kernel
theorem dX10_picture_119 : decode cX10_picture 119 = .ok (.isub, 1) := by decide +kernel
theorem dX10_picture_120 : decode cX10_picture 120 = .ok (.iload_n 1, 1) := by decide +kernel
theorem dX10_picture_121 : decode cX10_picture 121 = .ok (.aload_n 0, 1) := by decide +kernel
theorem dX10_picture_122 : decode cX10_picture 122 = .ok (.getfield 32, 3) := by decide +kernel
theorem dX10_picture_125 : decode cX10_picture 125 = .ok (.iload 4, 2) := by decide +kernel
theorem dX10_picture_127 : decode cX10_picture 127 = .ok (.iaload, 1) := by decide +kernel
theorem dX10_picture_128 : decode cX10_picture 128 = .ok (.isub, 1) := by decide +kernel
theorem dX10_picture_129 : decode cX10_picture 129 = .ok (.iload_n 3, 1) := by decide +kernel
theorem dX10_picture_130 : decode cX10_picture 130 = .ok (.invokevirtual 327, 3) := by decide +kernel
theorem dX10_picture_133 : decode cX10_picture 133 = .ok (.ireturn, 1) := by decide +kernel
theorem dX10_picture_134 : decode cX10_picture 134 = .ok (.iload 5, 2) := by decide +kernel
theorem dX10_picture_136 : decode cX10_picture 136 = .ok (.ifCond .eq 80, 3) := by decide +kernel
theorem dX10_picture_139 : decode cX10_picture 139 = .ok (.aload_n 0, 1) := by decide +kernel
theorem dX10_picture_140 : decode cX10_picture 140 = .ok (.getfield 26, 3) := by decide +kernel
theorem dX10_picture_143 : decode cX10_picture 143 = .ok (.iload 4, 2) := by decide +kernel
theorem dX10_picture_145 : decode cX10_picture 145 = .ok (.baload, 1) := by decide +kernel
theorem dX10_picture_146 : decode cX10_picture 146 = .ok (.ifCond .eq 25, 3) := by decide +kernel
theorem dX10_picture_149 : decode cX10_picture 149 = .ok (.iload_n 2, 1) := by decide +kernel
theorem dX10_picture_150 : decode cX10_picture 150 = .ok (.aload_n 0, 1) := by decide +kernel
theorem dX10_picture_151 : decode cX10_picture 151 = .ok (.getfield 35, 3) := by decide +kernel
theorem dX10_picture_154 : decode cX10_picture 154 = .ok (.iload 4, 2) := by decide +kernel
theorem dX10_picture_156 : decode cX10_picture 156 = .ok (.iaload, 1) := by decide +kernel
theorem dX10_picture_157 : decode cX10_picture 157 = .ok (.aload_n 0, 1) := by decide +kernel
theorem dX10_picture_158 : decode cX10_picture 158 = .ok (.getfield 29, 3) := by decide +kernel
theorem dX10_picture_161 : decode cX10_picture 161 = .ok (.iload 4, 2) := by decide +kernel
theorem dX10_picture_163 : decode cX10_picture 163 = .ok (.iaload, 1) := by decide +kernel
theorem dX10_picture_164 : decode cX10_picture 164 = .ok (.iadd, 1) := by decide +kernel
theorem dX10_picture_165 : decode cX10_picture 165 = .ok (.if_icmp .ne 51, 3) := by decide +kernel
theorem dX10_picture_168 : decode cX10_picture 168 = .ok (.goto 22, 3) := by decide +kernel
theorem dX10_picture_171 : decode cX10_picture 171 = .ok (.iload_n 1, 1) := by decide +kernel
theorem dX10_picture_172 : decode cX10_picture 172 = .ok (.aload_n 0, 1) := by decide +kernel
theorem dX10_picture_173 : decode cX10_picture 173 = .ok (.getfield 32, 3) := by decide +kernel
theorem dX10_picture_176 : decode cX10_picture 176 = .ok (.iload 4, 2) := by decide +kernel
theorem dX10_picture_178 : decode cX10_picture 178 = .ok (.iaload, 1) := by decide +kernel
theorem dX10_picture_179 : decode cX10_picture 179 = .ok (.aload_n 0, 1) := by decide +kernel
theorem dX10_picture_180 : decode cX10_picture 180 = .ok (.getfield 29, 3) := by decide +kernel
theorem dX10_picture_183 : decode cX10_picture 183 = .ok (.iload 4, 2) := by decide +kernel
theorem dX10_picture_185 : decode cX10_picture 185 = .ok (.iaload, 1) := by decide +kernel
theorem dX10_picture_186 : decode cX10_picture 186 = .ok (.iadd, 1) := by decide +kernel
theorem dX10_picture_187 : decode cX10_picture 187 = .ok (.if_icmp .ne 29, 3) := by decide +kernel
theorem dX10_picture_190 : decode cX10_picture 190 = .ok (.iload_n 3, 1) := by decide +kernel
theorem dX10_picture_191 : decode cX10_picture 191 = .ok (.ifCond .eq 7, 3) := by decide +kernel
theorem dX10_picture_194 : decode cX10_picture 194 = .ok (.iconst 0, 1) := by decide +kernel
theorem dX10_picture_195 : decode cX10_picture 195 = .ok (.goto 20, 3) := by decide +kernel
theorem dX10_picture_198 : decode cX10_picture 198 = .ok (.aload_n 0, 1) := by decide +kernel
theorem dX10_picture_199 : decode cX10_picture 199 = .ok (.getfield 26, 3) := by decide +kernel
theorem dX10_picture_202 : decode cX10_picture 202 = .ok (.iload 4, 2) := by decide +kernel
theorem dX10_picture_204 : decode cX10_picture 204 = .ok (.baload, 1) := by decide +kernel
theorem dX10_picture_205 : decode cX10_picture 205 = .ok (.ifCond .eq 8, 3) := by decide +kernel
theorem dX10_picture_208 : decode cX10_picture 208 = .ok (.bipush 45, 2) := by decide +kernel
theorem dX10_picture_210 : decode cX10_picture 210 = .ok (.goto 5, 3) := by decide +kernel
theorem dX10_picture_213 : decode cX10_picture 213 = .ok (.bipush 124, 2) := by decide +kernel
theorem dX10_picture_215 : decode cX10_picture 215 = .ok (.ireturn, 1) := by decide +kernel
theorem dX10_picture_216 : decode cX10_picture 216 = .ok (.iinc 4 1, 3) := by decide +kernel
theorem dX10_picture_219 : decode cX10_picture 219 = .ok (.goto (-216), 3) := by decide +kernel
theorem dX10_picture_222 : decode cX10_picture 222 = .ok (.iconst (-1), 1) := by decide +kernel
theorem dX10_picture_223 : decode cX10_picture 223 = .ok (.ireturn, 1) := by decide +kernel
theorem dX10_isSeen_0 : decode cX10_isSeen 0 = .ok (.aload_n 0, 1) := by decide +kernel
theorem dX10_isSeen_1 : decode cX10_isSeen 1 = .ok (.getfield 101, 3) := by decide +kernel
theorem dX10_isSeen_4 : decode cX10_isSeen 4 = .ok (.aload_n 0, 1) := by decide +kernel
theorem dX10_isSeen_5 : decode cX10_isSeen 5 = .ok (.getfield 207, 3) := by decide +kernel
theorem dX10_isSeen_8 : decode cX10_isSeen 8 = .ok (.baload, 1) := by decide +kernel
theorem dX10_isSeen_9 : decode cX10_isSeen 9 = .ok (.ifCond .ne 19, 3) := by decide +kernel
theorem dX10_isSeen_12 : decode cX10_isSeen 12 = .ok (.aload_n 0, 1) := by decide +kernel
theorem dX10_isSeen_13 : decode cX10_isSeen 13 = .ok (.getfield 128, 3) := by decide +kernel
theorem dX10_isSeen_16 : decode cX10_isSeen 16 = .ok (.aload_n 0, 1) := by decide +kernel
theorem dX10_isSeen_17 : decode cX10_isSeen 17 = .ok (.getfield 207, 3) := by decide +kernel
theorem dX10_isSeen_20 : decode cX10_isSeen 20 = .ok (.baload, 1) := by decide +kernel
theorem dX10_isSeen_21 : decode cX10_isSeen 21 = .ok (.ifCond .ne 7, 3) := by decide +kernel
theorem dX10_isSeen_24 : decode cX10_isSeen 24 = .ok (.iconst 1, 1) := by decide +kernel
theorem dX10_isSeen_25 : decode cX10_isSeen 25 = .ok (.goto 4, 3) := by decide +kernel
theorem dX10_isSeen_28 : decode cX10_isSeen 28 = .ok (.iconst 0, 1) := by decide +kernel
theorem dX10_isSeen_29 : decode cX10_isSeen 29 = .ok (.ireturn, 1) := by decide +kernel
theorem dX10_put_0 : decode cX10_put 0 = .ok (.aload_n 0, 1) := by decide +kernel
theorem dX10_put_1 : decode cX10_put 1 = .ok (.getfield 153, 3) := by decide +kernel
theorem dX10_put_4 : decode cX10_put 4 = .ok (.aload_n 0, 1) := by decide +kernel
theorem dX10_put_5 : decode cX10_put 5 = .ok (.getfield 334, 3) := by decide +kernel
theorem dX10_put_8 : decode cX10_put 8 = .ok (.iload_n 1, 1) := by decide +kernel
theorem dX10_put_9 : decode cX10_put 9 = .ok (.iastore, 1) := by decide +kernel
theorem dX10_put_10 : decode cX10_put 10 = .ok (.aload_n 0, 1) := by decide +kernel
theorem dX10_put_11 : decode cX10_put 11 = .ok (.dup, 1) := by decide +kernel
theorem dX10_put_12 : decode cX10_put 12 = .ok (.getfield 334, 3) := by decide +kernel
theorem dX10_put_15 : decode cX10_put 15 = .ok (.iconst 1, 1) := by decide +kernel
theorem dX10_put_16 : decode cX10_put 16 = .ok (.iadd, 1) := by decide +kernel
theorem dX10_put_17 : decode cX10_put 17 = .ok (.putfield 334, 3) := by decide +kernel
theorem dX10_put_20 : decode cX10_put 20 = .ok (.return_, 1) := by decide +kernel
theorem dX10_number_0 : decode cX10_number 0 = .ok (.iload_n 1, 1) := by decide +kernel
theorem dX10_number_1 : decode cX10_number 1 = .ok (.bipush 9, 2) := by decide +kernel
theorem dX10_number_3 : decode cX10_number 3 = .ok (.if_icmp .le 14, 3) := by decide +kernel
theorem dX10_number_6 : decode cX10_number 6 = .ok (.aload_n 0, 1) := by decide +kernel
theorem dX10_number_7 : decode cX10_number 7 = .ok (.bipush 48, 2) := by decide +kernel
theorem dX10_number_9 : decode cX10_number 9 = .ok (.iload_n 1, 1) := by decide +kernel
theorem dX10_number_10 : decode cX10_number 10 = .ok (.bipush 10, 2) := by decide +kernel
theorem dX10_number_12 : decode cX10_number 12 = .ok (.idiv, 1) := by decide +kernel
theorem dX10_number_13 : decode cX10_number 13 = .ok (.iadd, 1) := by decide +kernel
theorem dX10_number_14 : decode cX10_number 14 = .ok (.invokevirtual 337, 3) := by decide +kernel
theorem dX10_number_17 : decode cX10_number 17 = .ok (.aload_n 0, 1) := by decide +kernel
theorem dX10_number_18 : decode cX10_number 18 = .ok (.bipush 48, 2) := by decide +kernel
theorem dX10_number_20 : decode cX10_number 20 = .ok (.iload_n 1, 1) := by decide +kernel
theorem dX10_number_21 : decode cX10_number 21 = .ok (.bipush 10, 2) := by decide +kernel
theorem dX10_number_23 : decode cX10_number 23 = .ok (.irem, 1) := by decide +kernel
theorem dX10_number_24 : decode cX10_number 24 = .ok (.iadd, 1) := by decide +kernel
theorem dX10_number_25 : decode cX10_number 25 = .ok (.invokevirtual 337, 3) := by decide +kernel
theorem dX10_number_28 : decode cX10_number 28 = .ok (.return_, 1) := by decide +kernel
theorem dX10_goTo_0 : decode cX10_goTo 0 = .ok (.aload_n 0, 1) := by decide +kernel
theorem dX10_goTo_1 : decode cX10_goTo 1 = .ok (.getfield 340, 3) := by decide +kernel
theorem dX10_goTo_4 : decode cX10_goTo 4 = .ok (.iload_n 1, 1) := by decide +kernel
theorem dX10_goTo_5 : decode cX10_goTo 5 = .ok (.if_icmp .ne 11, 3) := by decide +kernel
theorem dX10_goTo_8 : decode cX10_goTo 8 = .ok (.aload_n 0, 1) := by decide +kernel
theorem dX10_goTo_9 : decode cX10_goTo 9 = .ok (.getfield 343, 3) := by decide +kernel
theorem dX10_goTo_12 : decode cX10_goTo 12 = .ok (.iload_n 2, 1) := by decide +kernel
theorem dX10_goTo_13 : decode cX10_goTo 13 = .ok (.if_icmp .eq 51, 3) := by decide +kernel
theorem dX10_goTo_16 : decode cX10_goTo 16 = .ok (.aload_n 0, 1) := by decide +kernel
theorem dX10_goTo_17 : decode cX10_goTo 17 = .ok (.bipush 27, 2) := by decide +kernel
theorem dX10_goTo_19 : decode cX10_goTo 19 = .ok (.invokevirtual 337, 3) := by decide +kernel
theorem dX10_goTo_22 : decode cX10_goTo 22 = .ok (.aload_n 0, 1) := by decide +kernel
theorem dX10_goTo_23 : decode cX10_goTo 23 = .ok (.bipush 91, 2) := by decide +kernel
theorem dX10_goTo_25 : decode cX10_goTo 25 = .ok (.invokevirtual 337, 3) := by decide +kernel
theorem dX10_goTo_28 : decode cX10_goTo 28 = .ok (.aload_n 0, 1) := by decide +kernel
theorem dX10_goTo_29 : decode cX10_goTo 29 = .ok (.iload_n 2, 1) := by decide +kernel
theorem dX10_goTo_30 : decode cX10_goTo 30 = .ok (.iconst 1, 1) := by decide +kernel
theorem dX10_goTo_31 : decode cX10_goTo 31 = .ok (.iadd, 1) := by decide +kernel
theorem dX10_goTo_32 : decode cX10_goTo 32 = .ok (.invokevirtual 346, 3) := by decide +kernel
theorem dX10_goTo_35 : decode cX10_goTo 35 = .ok (.aload_n 0, 1) := by decide +kernel
theorem dX10_goTo_36 : decode cX10_goTo 36 = .ok (.bipush 59, 2) := by decide +kernel
theorem dX10_goTo_38 : decode cX10_goTo 38 = .ok (.invokevirtual 337, 3) := by decide +kernel
theorem dX10_goTo_41 : decode cX10_goTo 41 = .ok (.aload_n 0, 1) := by decide +kernel
theorem dX10_goTo_42 : decode cX10_goTo 42 = .ok (.iload_n 1, 1) := by decide +kernel
theorem dX10_goTo_43 : decode cX10_goTo 43 = .ok (.iconst 1, 1) := by decide +kernel
theorem dX10_goTo_44 : decode cX10_goTo 44 = .ok (.iadd, 1) := by decide +kernel
theorem dX10_goTo_45 : decode cX10_goTo 45 = .ok (.invokevirtual 346, 3) := by decide +kernel
theorem dX10_goTo_48 : decode cX10_goTo 48 = .ok (.aload_n 0, 1) := by decide +kernel
theorem dX10_goTo_49 : decode cX10_goTo 49 = .ok (.bipush 72, 2) := by decide +kernel
theorem dX10_goTo_51 : decode cX10_goTo 51 = .ok (.invokevirtual 337, 3) := by decide +kernel
theorem dX10_goTo_54 : decode cX10_goTo 54 = .ok (.aload_n 0, 1) := by decide +kernel
theorem dX10_goTo_55 : decode cX10_goTo 55 = .ok (.iload_n 1, 1) := by decide +kernel
theorem dX10_goTo_56 : decode cX10_goTo 56 = .ok (.putfield 340, 3) := by decide +kernel
theorem dX10_goTo_59 : decode cX10_goTo 59 = .ok (.aload_n 0, 1) := by decide +kernel
theorem dX10_goTo_60 : decode cX10_goTo 60 = .ok (.iload_n 2, 1) := by decide +kernel
theorem dX10_goTo_61 : decode cX10_goTo 61 = .ok (.putfield 343, 3) := by decide +kernel
theorem dX10_goTo_64 : decode cX10_goTo 64 = .ok (.return_, 1) := by decide +kernel
theorem dX10_usePen_0 : decode cX10_usePen 0 = .ok (.iload_n 1, 1) := by decide +kernel
theorem dX10_usePen_1 : decode cX10_usePen 1 = .ok (.aload_n 0, 1) := by decide +kernel
theorem dX10_usePen_2 : decode cX10_usePen 2 = .ok (.getfield 349, 3) := by decide +kernel
theorem dX10_usePen_5 : decode cX10_usePen 5 = .ok (.if_icmp .ne 4, 3) := by decide +kernel
theorem dX10_usePen_8 : decode cX10_usePen 8 = .ok (.return_, 1) := by decide +kernel
theorem dX10_usePen_9 : decode cX10_usePen 9 = .ok (.aload_n 0, 1) := by decide +kernel
theorem dX10_usePen_10 : decode cX10_usePen 10 = .ok (.bipush 27, 2) := by decide +kernel
theorem dX10_usePen_12 : decode cX10_usePen 12 = .ok (.invokevirtual 337, 3) := by decide +kernel
theorem dX10_usePen_15 : decode cX10_usePen 15 = .ok (.aload_n 0, 1) := by decide +kernel
theorem dX10_usePen_16 : decode cX10_usePen 16 = .ok (.bipush 91, 2) := by decide +kernel
theorem dX10_usePen_18 : decode cX10_usePen 18 = .ok (.invokevirtual 337, 3) := by decide +kernel
theorem dX10_usePen_21 : decode cX10_usePen 21 = .ok (.aload_n 0, 1) := by decide +kernel
theorem dX10_usePen_22 : decode cX10_usePen 22 = .ok (.bipush 48, 2) := by decide +kernel
theorem dX10_usePen_24 : decode cX10_usePen 24 = .ok (.invokevirtual 337, 3) := by decide +kernel
theorem dX10_usePen_27 : decode cX10_usePen 27 = .ok (.iconst 0, 1) := by decide +kernel
theorem dX10_usePen_28 : decode cX10_usePen 28 = .ok (.istore_n 2, 1) := by decide +kernel
theorem dX10_usePen_29 : decode cX10_usePen 29 = .ok (.iload_n 2, 1) := by decide +kernel
theorem dX10_usePen_30 : decode cX10_usePen 30 = .ok (.iconst 3, 1) := by decide +kernel
theorem dX10_usePen_31 : decode cX10_usePen 31 = .ok (.if_icmp .ge 49, 3) := by decide +kernel
theorem dX10_usePen_34 : decode cX10_usePen 34 = .ok (.iload_n 1, 1) := by decide +kernel
theorem dX10_usePen_35 : decode cX10_usePen 35 = .ok (.iload_n 2, 1) := by decide +kernel
theorem dX10_usePen_36 : decode cX10_usePen 36 = .ok (.ishr, 1) := by decide +kernel
theorem dX10_usePen_37 : decode cX10_usePen 37 = .ok (.iconst 1, 1) := by decide +kernel
theorem dX10_usePen_38 : decode cX10_usePen 38 = .ok (.iand, 1) := by decide +kernel
theorem dX10_usePen_39 : decode cX10_usePen 39 = .ok (.iconst 1, 1) := by decide +kernel
theorem dX10_usePen_40 : decode cX10_usePen 40 = .ok (.if_icmp .ne 34, 3) := by decide +kernel
theorem dX10_usePen_43 : decode cX10_usePen 43 = .ok (.aload_n 0, 1) := by decide +kernel
theorem dX10_usePen_44 : decode cX10_usePen 44 = .ok (.bipush 59, 2) := by decide +kernel
theorem dX10_usePen_46 : decode cX10_usePen 46 = .ok (.invokevirtual 337, 3) := by decide +kernel
theorem dX10_usePen_49 : decode cX10_usePen 49 = .ok (.aload_n 0, 1) := by decide +kernel
theorem dX10_usePen_50 : decode cX10_usePen 50 = .ok (.iload_n 2, 1) := by decide +kernel
theorem dX10_usePen_51 : decode cX10_usePen 51 = .ok (.ifCond .ne 8, 3) := by decide +kernel
theorem dX10_usePen_54 : decode cX10_usePen 54 = .ok (.bipush 49, 2) := by decide +kernel
theorem dX10_usePen_56 : decode cX10_usePen 56 = .ok (.goto 15, 3) := by decide +kernel
theorem dX10_usePen_59 : decode cX10_usePen 59 = .ok (.iload_n 2, 1) := by decide +kernel
theorem dX10_usePen_60 : decode cX10_usePen 60 = .ok (.iconst 1, 1) := by decide +kernel
theorem dX10_usePen_61 : decode cX10_usePen 61 = .ok (.if_icmp .ne 8, 3) := by decide +kernel
theorem dX10_usePen_64 : decode cX10_usePen 64 = .ok (.bipush 52, 2) := by decide +kernel
theorem dX10_usePen_66 : decode cX10_usePen 66 = .ok (.goto 5, 3) := by decide +kernel
theorem dX10_usePen_69 : decode cX10_usePen 69 = .ok (.bipush 55, 2) := by decide +kernel
theorem dX10_usePen_71 : decode cX10_usePen 71 = .ok (.invokevirtual 337, 3) := by decide +kernel
theorem dX10_usePen_74 : decode cX10_usePen 74 = .ok (.iinc 2 1, 3) := by decide +kernel
theorem dX10_usePen_77 : decode cX10_usePen 77 = .ok (.goto (-48), 3) := by decide +kernel
theorem dX10_usePen_80 : decode cX10_usePen 80 = .ok (.iconst 0, 1) := by decide +kernel
theorem dX10_usePen_81 : decode cX10_usePen 81 = .ok (.istore_n 2, 1) := by decide +kernel
theorem dX10_usePen_82 : decode cX10_usePen 82 = .ok (.iload_n 2, 1) := by decide +kernel
theorem dX10_usePen_83 : decode cX10_usePen 83 = .ok (.iconst 2, 1) := by decide +kernel
theorem dX10_usePen_84 : decode cX10_usePen 84 = .ok (.if_icmp .ge 46, 3) := by decide +kernel
theorem dX10_usePen_87 : decode cX10_usePen 87 = .ok (.iload_n 1, 1) := by decide +kernel
theorem dX10_usePen_88 : decode cX10_usePen 88 = .ok (.iconst 4, 1) := by decide +kernel
theorem dX10_usePen_89 : decode cX10_usePen 89 = .ok (.iconst 4, 1) := by decide +kernel
theorem dX10_usePen_90 : decode cX10_usePen 90 = .ok (.iload_n 2, 1) := by decide +kernel
theorem dX10_usePen_91 : decode cX10_usePen 91 = .ok (.imul, 1) := by decide +kernel
theorem dX10_usePen_92 : decode cX10_usePen 92 = .ok (.iadd, 1) := by decide +kernel
theorem dX10_usePen_93 : decode cX10_usePen 93 = .ok (.ishr, 1) := by decide +kernel
theorem dX10_usePen_94 : decode cX10_usePen 94 = .ok (.bipush 15, 2) := by decide +kernel
theorem dX10_usePen_96 : decode cX10_usePen 96 = .ok (.iand, 1) := by decide +kernel
theorem dX10_usePen_97 : decode cX10_usePen 97 = .ok (.istore_n 3, 1) := by decide +kernel
theorem dX10_usePen_98 : decode cX10_usePen 98 = .ok (.iload_n 3, 1) := by decide +kernel
theorem dX10_usePen_99 : decode cX10_usePen 99 = .ok (.ifCond .le 25, 3) := by decide +kernel
theorem dX10_usePen_102 : decode cX10_usePen 102 = .ok (.aload_n 0, 1) := by decide +kernel
theorem dX10_usePen_103 : decode cX10_usePen 103 = .ok (.bipush 59, 2) := by decide +kernel
theorem dX10_usePen_105 : decode cX10_usePen 105 = .ok (.invokevirtual 337, 3) := by decide +kernel
theorem dX10_usePen_108 : decode cX10_usePen 108 = .ok (.aload_n 0, 1) := by decide +kernel
theorem dX10_usePen_109 : decode cX10_usePen 109 = .ok (.bipush 51, 2) := by decide +kernel
theorem dX10_usePen_111 : decode cX10_usePen 111 = .ok (.iload_n 2, 1) := by decide +kernel
theorem dX10_usePen_112 : decode cX10_usePen 112 = .ok (.iadd, 1) := by decide +kernel
theorem dX10_usePen_113 : decode cX10_usePen 113 = .ok (.invokevirtual 337, 3) := by decide +kernel
theorem dX10_usePen_116 : decode cX10_usePen 116 = .ok (.aload_n 0, 1) := by decide +kernel
theorem dX10_usePen_117 : decode cX10_usePen 117 = .ok (.bipush 47, 2) := by decide +kernel
theorem dX10_usePen_119 : decode cX10_usePen 119 = .ok (.iload_n 3, 1) := by decide +kernel
theorem dX10_usePen_120 : decode cX10_usePen 120 = .ok (.iadd, 1) := by decide +kernel
theorem dX10_usePen_121 : decode cX10_usePen 121 = .ok (.invokevirtual 337, 3) := by decide +kernel
theorem dX10_usePen_124 : decode cX10_usePen 124 = .ok (.iinc 2 1, 3) := by decide +kernel
theorem dX10_usePen_127 : decode cX10_usePen 127 = .ok (.goto (-45), 3) := by decide +kernel
theorem dX10_usePen_130 : decode cX10_usePen 130 = .ok (.aload_n 0, 1) := by decide +kernel
theorem dX10_usePen_131 : decode cX10_usePen 131 = .ok (.bipush 109, 2) := by decide +kernel
theorem dX10_usePen_133 : decode cX10_usePen 133 = .ok (.invokevirtual 337, 3) := by decide +kernel
theorem dX10_usePen_136 : decode cX10_usePen 136 = .ok (.aload_n 0, 1) := by decide +kernel
theorem dX10_usePen_137 : decode cX10_usePen 137 = .ok (.iload_n 1, 1) := by decide +kernel
theorem dX10_usePen_138 : decode cX10_usePen 138 = .ok (.putfield 349, 3) := by decide +kernel
theorem dX10_usePen_141 : decode cX10_usePen 141 = .ok (.return_, 1) := by decide +kernel
theorem dX10_redraw_0 : decode cX10_redraw 0 = .ok (.aload_n 0, 1) := by decide +kernel
theorem dX10_redraw_1 : decode cX10_redraw 1 = .ok (.iconst 0, 1) := by decide +kernel
theorem dX10_redraw_2 : decode cX10_redraw 2 = .ok (.putfield 173, 3) := by decide +kernel
theorem dX10_redraw_5 : decode cX10_redraw 5 = .ok (.aload_n 0, 1) := by decide +kernel
theorem dX10_redraw_6 : decode cX10_redraw 6 = .ok (.iconst 0, 1) := by decide +kernel
theorem dX10_redraw_7 : decode cX10_redraw 7 = .ok (.putfield 334, 3) := by decide +kernel
theorem dX10_redraw_10 : decode cX10_redraw 10 = .ok (.iconst 0, 1) := by decide +kernel
theorem dX10_redraw_11 : decode cX10_redraw 11 = .ok (.istore_n 1, 1) := by decide +kernel
theorem dX10_redraw_12 : decode cX10_redraw 12 = .ok (.iload_n 1, 1) := by decide +kernel
theorem dX10_redraw_13 : decode cX10_redraw 13 = .ok (.aload_n 0, 1) := by decide +kernel
theorem dX10_redraw_14 : decode cX10_redraw 14 = .ok (.getfield 166, 3) := by decide +kernel
theorem dX10_redraw_17 : decode cX10_redraw 17 = .ok (.if_icmp .ge 136, 3) := by decide +kernel
theorem dX10_redraw_20 : decode cX10_redraw 20 = .ok (.iconst 0, 1) := by decide +kernel
theorem dX10_redraw_21 : decode cX10_redraw 21 = .ok (.istore_n 2, 1) := by decide +kernel
theorem dX10_redraw_22 : decode cX10_redraw 22 = .ok (.iload_n 2, 1) := by decide +kernel
theorem dX10_redraw_23 : decode cX10_redraw 23 = .ok (.aload_n 0, 1) := by decide +kernel
theorem dX10_redraw_24 : decode cX10_redraw 24 = .ok (.getfield 162, 3) := by decide +kernel
theorem dX10_redraw_27 : decode cX10_redraw 27 = .ok (.if_icmp .ge 120, 3) := by decide +kernel
theorem dX10_redraw_30 : decode cX10_redraw 30 = .ok (.aload_n 0, 1) := by decide +kernel
theorem dX10_redraw_31 : decode cX10_redraw 31 = .ok (.iload_n 2, 1) := by decide +kernel
theorem dX10_redraw_32 : decode cX10_redraw 32 = .ok (.iload_n 1, 1) := by decide +kernel
theorem dX10_redraw_33 : decode cX10_redraw 33 = .ok (.iconst 0, 1) := by decide +kernel
theorem dX10_redraw_34 : decode cX10_redraw 34 = .ok (.invokevirtual 352, 3) := by decide +kernel
theorem dX10_redraw_37 : decode cX10_redraw 37 = .ok (.istore_n 3, 1) := by decide +kernel
theorem dX10_redraw_38 : decode cX10_redraw 38 = .ok (.aload_n 0, 1) := by decide +kernel
theorem dX10_redraw_39 : decode cX10_redraw 39 = .ok (.iload_n 2, 1) := by decide +kernel
theorem dX10_redraw_40 : decode cX10_redraw 40 = .ok (.iload_n 1, 1) := by decide +kernel
theorem dX10_redraw_41 : decode cX10_redraw 41 = .ok (.iconst 1, 1) := by decide +kernel
theorem dX10_redraw_42 : decode cX10_redraw 42 = .ok (.invokevirtual 352, 3) := by decide +kernel
theorem dX10_redraw_45 : decode cX10_redraw 45 = .ok (.istore 4, 2) := by decide +kernel
theorem dX10_redraw_47 : decode cX10_redraw 47 = .ok (.iload_n 3, 1) := by decide +kernel
theorem dX10_redraw_48 : decode cX10_redraw 48 = .ok (.aload_n 0, 1) := by decide +kernel
theorem dX10_redraw_49 : decode cX10_redraw 49 = .ok (.getfield 143, 3) := by decide +kernel
theorem dX10_redraw_52 : decode cX10_redraw 52 = .ok (.bipush 40, 2) := by decide +kernel
theorem dX10_redraw_54 : decode cX10_redraw 54 = .ok (.iload_n 1, 1) := by decide +kernel
theorem dX10_redraw_55 : decode cX10_redraw 55 = .ok (.imul, 1) := by decide +kernel
theorem dX10_redraw_56 : decode cX10_redraw 56 = .ok (.iload_n 2, 1) := by decide +kernel
theorem dX10_redraw_57 : decode cX10_redraw 57 = .ok (.iadd, 1) := by decide +kernel
theorem dX10_redraw_58 : decode cX10_redraw 58 = .ok (.iaload, 1) := by decide +kernel
theorem dX10_redraw_59 : decode cX10_redraw 59 = .ok (.if_icmp .ne 19, 3) := by decide +kernel
theorem dX10_redraw_62 : decode cX10_redraw 62 = .ok (.iload 4, 2) := by decide +kernel
theorem dX10_redraw_64 : decode cX10_redraw 64 = .ok (.aload_n 0, 1) := by decide +kernel
theorem dX10_redraw_65 : decode cX10_redraw 65 = .ok (.getfield 146, 3) := by decide +kernel
theorem dX10_redraw_68 : decode cX10_redraw 68 = .ok (.bipush 40, 2) := by decide +kernel
theorem dX10_redraw_70 : decode cX10_redraw 70 = .ok (.iload_n 1, 1) := by decide +kernel
theorem dX10_redraw_71 : decode cX10_redraw 71 = .ok (.imul, 1) := by decide +kernel
theorem dX10_redraw_72 : decode cX10_redraw 72 = .ok (.iload_n 2, 1) := by decide +kernel
theorem dX10_redraw_73 : decode cX10_redraw 73 = .ok (.iadd, 1) := by decide +kernel
theorem dX10_redraw_74 : decode cX10_redraw 74 = .ok (.iaload, 1) := by decide +kernel
theorem dX10_redraw_75 : decode cX10_redraw 75 = .ok (.if_icmp .eq 66, 3) := by decide +kernel
theorem dX10_redraw_78 : decode cX10_redraw 78 = .ok (.aload_n 0, 1) := by decide +kernel
theorem dX10_redraw_79 : decode cX10_redraw 79 = .ok (.iload_n 2, 1) := by decide +kernel
theorem dX10_redraw_80 : decode cX10_redraw 80 = .ok (.iload_n 1, 1) := by decide +kernel
theorem dX10_redraw_81 : decode cX10_redraw 81 = .ok (.invokevirtual 356, 3) := by decide +kernel
theorem dX10_redraw_84 : decode cX10_redraw 84 = .ok (.aload_n 0, 1) := by decide +kernel
theorem dX10_redraw_85 : decode cX10_redraw 85 = .ok (.iload 4, 2) := by decide +kernel
theorem dX10_redraw_87 : decode cX10_redraw 87 = .ok (.invokevirtual 359, 3) := by decide +kernel
theorem dX10_redraw_90 : decode cX10_redraw 90 = .ok (.aload_n 0, 1) := by decide +kernel
theorem dX10_redraw_91 : decode cX10_redraw 91 = .ok (.iload_n 3, 1) := by decide +kernel
theorem dX10_redraw_92 : decode cX10_redraw 92 = .ok (.invokevirtual 337, 3) := by decide +kernel
theorem dX10_redraw_95 : decode cX10_redraw 95 = .ok (.aload_n 0, 1) := by decide +kernel
theorem dX10_redraw_96 : decode cX10_redraw 96 = .ok (.getfield 143, 3) := by decide +kernel
theorem dX10_redraw_99 : decode cX10_redraw 99 = .ok (.bipush 40, 2) := by decide +kernel
theorem dX10_redraw_101 : decode cX10_redraw 101 = .ok (.iload_n 1, 1) := by decide +kernel
theorem dX10_redraw_102 : decode cX10_redraw 102 = .ok (.imul, 1) := by decide +kernel
theorem dX10_redraw_103 : decode cX10_redraw 103 = .ok (.iload_n 2, 1) := by decide +kernel
theorem dX10_redraw_104 : decode cX10_redraw 104 = .ok (.iadd, 1) := by decide +kernel
theorem dX10_redraw_105 : decode cX10_redraw 105 = .ok (.iload_n 3, 1) := by decide +kernel
theorem dX10_redraw_106 : decode cX10_redraw 106 = .ok (.iastore, 1) := by decide +kernel
theorem dX10_redraw_107 : decode cX10_redraw 107 = .ok (.aload_n 0, 1) := by decide +kernel
theorem dX10_redraw_108 : decode cX10_redraw 108 = .ok (.getfield 146, 3) := by decide +kernel
theorem dX10_redraw_111 : decode cX10_redraw 111 = .ok (.bipush 40, 2) := by decide +kernel
theorem dX10_redraw_113 : decode cX10_redraw 113 = .ok (.iload_n 1, 1) := by decide +kernel
theorem dX10_redraw_114 : decode cX10_redraw 114 = .ok (.imul, 1) := by decide +kernel
theorem dX10_redraw_115 : decode cX10_redraw 115 = .ok (.iload_n 2, 1) := by decide +kernel
theorem dX10_redraw_116 : decode cX10_redraw 116 = .ok (.iadd, 1) := by decide +kernel
theorem dX10_redraw_117 : decode cX10_redraw 117 = .ok (.iload 4, 2) := by decide +kernel
theorem dX10_redraw_119 : decode cX10_redraw 119 = .ok (.iastore, 1) := by decide +kernel
theorem dX10_redraw_120 : decode cX10_redraw 120 = .ok (.aload_n 0, 1) := by decide +kernel
theorem dX10_redraw_121 : decode cX10_redraw 121 = .ok (.iload_n 2, 1) := by decide +kernel
theorem dX10_redraw_122 : decode cX10_redraw 122 = .ok (.iconst 1, 1) := by decide +kernel
theorem dX10_redraw_123 : decode cX10_redraw 123 = .ok (.iadd, 1) := by decide +kernel
theorem dX10_redraw_124 : decode cX10_redraw 124 = .ok (.aload_n 0, 1) := by decide +kernel
theorem dX10_redraw_125 : decode cX10_redraw 125 = .ok (.getfield 162, 3) := by decide +kernel
theorem dX10_redraw_128 : decode cX10_redraw 128 = .ok (.if_icmp .ne 7, 3) := by decide +kernel
theorem dX10_redraw_131 : decode cX10_redraw 131 = .ok (.iconst (-1), 1) := by decide +kernel
theorem dX10_redraw_132 : decode cX10_redraw 132 = .ok (.goto 6, 3) := by decide +kernel
theorem dX10_redraw_135 : decode cX10_redraw 135 = .ok (.iload_n 2, 1) := by decide +kernel
theorem dX10_redraw_136 : decode cX10_redraw 136 = .ok (.iconst 1, 1) := by decide +kernel
theorem dX10_redraw_137 : decode cX10_redraw 137 = .ok (.iadd, 1) := by decide +kernel
theorem dX10_redraw_138 : decode cX10_redraw 138 = .ok (.putfield 340, 3) := by decide +kernel
theorem dX10_redraw_141 : decode cX10_redraw 141 = .ok (.iinc 2 1, 3) := by decide +kernel
theorem dX10_redraw_144 : decode cX10_redraw 144 = .ok (.goto (-122), 3) := by decide +kernel
theorem dX10_redraw_147 : decode cX10_redraw 147 = .ok (.iinc 1 1, 3) := by decide +kernel
theorem dX10_redraw_150 : decode cX10_redraw 150 = .ok (.goto (-138), 3) := by decide +kernel
theorem dX10_redraw_153 : decode cX10_redraw 153 = .ok (.aload_n 0, 1) := by decide +kernel
theorem dX10_redraw_154 : decode cX10_redraw 154 = .ok (.getfield 50, 3) := by decide +kernel
theorem dX10_redraw_157 : decode cX10_redraw 157 = .ok (.aload_n 0, 1) := by decide +kernel
theorem dX10_redraw_158 : decode cX10_redraw 158 = .ok (.getfield 207, 3) := by decide +kernel
theorem dX10_redraw_161 : decode cX10_redraw 161 = .ok (.iaload, 1) := by decide +kernel
theorem dX10_redraw_162 : decode cX10_redraw 162 = .ok (.istore_n 1, 1) := by decide +kernel
theorem dX10_redraw_163 : decode cX10_redraw 163 = .ok (.aload_n 0, 1) := by decide +kernel
theorem dX10_redraw_164 : decode cX10_redraw 164 = .ok (.invokevirtual 362, 3) := by decide +kernel
theorem dX10_redraw_167 : decode cX10_redraw 167 = .ok (.ifCond .eq 39, 3) := by decide +kernel
theorem dX10_redraw_170 : decode cX10_redraw 170 = .ok (.aload_n 0, 1) := by decide +kernel
theorem dX10_redraw_171 : decode cX10_redraw 171 = .ok (.aload_n 0, 1) := by decide +kernel
theorem dX10_redraw_172 : decode cX10_redraw 172 = .ok (.getfield 32, 3) := by decide +kernel
theorem dX10_redraw_175 : decode cX10_redraw 175 = .ok (.iload_n 1, 1) := by decide +kernel
theorem dX10_redraw_176 : decode cX10_redraw 176 = .ok (.iaload, 1) := by decide +kernel
theorem dX10_redraw_177 : decode cX10_redraw 177 = .ok (.aload_n 0, 1) := by decide +kernel
theorem dX10_redraw_178 : decode cX10_redraw 178 = .ok (.getfield 71, 3) := by decide +kernel
theorem dX10_redraw_181 : decode cX10_redraw 181 = .ok (.aload_n 0, 1) := by decide +kernel
theorem dX10_redraw_182 : decode cX10_redraw 182 = .ok (.getfield 207, 3) := by decide +kernel
theorem dX10_redraw_185 : decode cX10_redraw 185 = .ok (.iaload, 1) := by decide +kernel
theorem dX10_redraw_186 : decode cX10_redraw 186 = .ok (.iadd, 1) := by decide +kernel
theorem dX10_redraw_187 : decode cX10_redraw 187 = .ok (.aload_n 0, 1) := by decide +kernel
theorem dX10_redraw_188 : decode cX10_redraw 188 = .ok (.getfield 35, 3) := by decide +kernel
theorem dX10_redraw_191 : decode cX10_redraw 191 = .ok (.iload_n 1, 1) := by decide +kernel
theorem dX10_redraw_192 : decode cX10_redraw 192 = .ok (.iaload, 1) := by decide +kernel
theorem dX10_redraw_193 : decode cX10_redraw 193 = .ok (.aload_n 0, 1) := by decide +kernel
theorem dX10_redraw_194 : decode cX10_redraw 194 = .ok (.getfield 68, 3) := by decide +kernel
theorem dX10_redraw_197 : decode cX10_redraw 197 = .ok (.aload_n 0, 1) := by decide +kernel
theorem dX10_redraw_198 : decode cX10_redraw 198 = .ok (.getfield 207, 3) := by decide +kernel
theorem dX10_redraw_201 : decode cX10_redraw 201 = .ok (.iaload, 1) := by decide +kernel
theorem dX10_redraw_202 : decode cX10_redraw 202 = .ok (.iadd, 1) := by decide +kernel
theorem dX10_redraw_203 : decode cX10_redraw 203 = .ok (.invokevirtual 356, 3) := by decide +kernel
theorem dX10_redraw_206 : decode cX10_redraw 206 = .ok (.aload_n 0, 1) := by decide +kernel
theorem dX10_redraw_207 : decode cX10_redraw 207 = .ok (.invokevirtual 362, 3) := by decide +kernel
theorem dX10_redraw_210 : decode cX10_redraw 210 = .ok (.aload_n 0, 1) := by decide +kernel
theorem dX10_redraw_211 : decode cX10_redraw 211 = .ok (.getfield 149, 3) := by decide +kernel
theorem dX10_redraw_214 : decode cX10_redraw 214 = .ok (.if_icmp .eq 59, 3) := by decide +kernel
theorem dX10_redraw_217 : decode cX10_redraw 217 = .ok (.aload_n 0, 1) := by decide +kernel
theorem dX10_redraw_218 : decode cX10_redraw 218 = .ok (.aload_n 0, 1) := by decide +kernel
theorem dX10_redraw_219 : decode cX10_redraw 219 = .ok (.invokevirtual 362, 3) := by decide +kernel
theorem dX10_redraw_222 : decode cX10_redraw 222 = .ok (.putfield 149, 3) := by decide +kernel
theorem dX10_redraw_225 : decode cX10_redraw 225 = .ok (.aload_n 0, 1) := by decide +kernel
theorem dX10_redraw_226 : decode cX10_redraw 226 = .ok (.bipush 27, 2) := by decide +kernel
theorem dX10_redraw_228 : decode cX10_redraw 228 = .ok (.invokevirtual 337, 3) := by decide +kernel
theorem dX10_redraw_231 : decode cX10_redraw 231 = .ok (.aload_n 0, 1) := by decide +kernel
theorem dX10_redraw_232 : decode cX10_redraw 232 = .ok (.bipush 91, 2) := by decide +kernel
theorem dX10_redraw_234 : decode cX10_redraw 234 = .ok (.invokevirtual 337, 3) := by decide +kernel
theorem dX10_redraw_237 : decode cX10_redraw 237 = .ok (.aload_n 0, 1) := by decide +kernel
theorem dX10_redraw_238 : decode cX10_redraw 238 = .ok (.bipush 63, 2) := by decide +kernel
theorem dX10_redraw_240 : decode cX10_redraw 240 = .ok (.invokevirtual 337, 3) := by decide +kernel
theorem dX10_redraw_243 : decode cX10_redraw 243 = .ok (.aload_n 0, 1) := by decide +kernel
theorem dX10_redraw_244 : decode cX10_redraw 244 = .ok (.bipush 50, 2) := by decide +kernel
theorem dX10_redraw_246 : decode cX10_redraw 246 = .ok (.invokevirtual 337, 3) := by decide +kernel
theorem dX10_redraw_249 : decode cX10_redraw 249 = .ok (.aload_n 0, 1) := by decide +kernel
theorem dX10_redraw_250 : decode cX10_redraw 250 = .ok (.bipush 53, 2) := by decide +kernel
theorem dX10_redraw_252 : decode cX10_redraw 252 = .ok (.invokevirtual 337, 3) := by decide +kernel
theorem dX10_redraw_255 : decode cX10_redraw 255 = .ok (.aload_n 0, 1) := by decide +kernel
theorem dX10_redraw_256 : decode cX10_redraw 256 = .ok (.aload_n 0, 1) := by decide +kernel
theorem dX10_redraw_257 : decode cX10_redraw 257 = .ok (.getfield 149, 3) := by decide +kernel
theorem dX10_redraw_260 : decode cX10_redraw 260 = .ok (.ifCond .eq 8, 3) := by decide +kernel
theorem dX10_redraw_263 : decode cX10_redraw 263 = .ok (.bipush 104, 2) := by decide +kernel
theorem dX10_redraw_265 : decode cX10_redraw 265 = .ok (.goto 5, 3) := by decide +kernel
theorem dX10_redraw_268 : decode cX10_redraw 268 = .ok (.bipush 108, 2) := by decide +kernel
theorem dX10_redraw_270 : decode cX10_redraw 270 = .ok (.invokevirtual 337, 3) := by decide +kernel
theorem dX10_redraw_273 : decode cX10_redraw 273 = .ok (.aload_n 0, 1) := by decide +kernel
theorem dX10_redraw_274 : decode cX10_redraw 274 = .ok (.getfield 334, 3) := by decide +kernel
theorem dX10_redraw_277 : decode cX10_redraw 277 = .ok (.ireturn, 1) := by decide +kernel
theorem dX10_out_0 : decode cX10_out 0 = .ok (.aload_n 0, 1) := by decide +kernel
theorem dX10_out_1 : decode cX10_out 1 = .ok (.iload_n 1, 1) := by decide +kernel
theorem dX10_out_2 : decode cX10_out 2 = .ok (.ifCond .lt 11, 3) := by decide +kernel
theorem dX10_out_5 : decode cX10_out 5 = .ok (.iload_n 1, 1) := by decide +kernel
theorem dX10_out_6 : decode cX10_out 6 = .ok (.aload_n 0, 1) := by decide +kernel
theorem dX10_out_7 : decode cX10_out 7 = .ok (.getfield 334, 3) := by decide +kernel
theorem dX10_out_10 : decode cX10_out 10 = .ok (.if_icmp .lt 7, 3) := by decide +kernel
theorem dX10_out_13 : decode cX10_out 13 = .ok (.iconst 1, 1) := by decide +kernel
theorem dX10_out_14 : decode cX10_out 14 = .ok (.goto 4, 3) := by decide +kernel
theorem dX10_out_17 : decode cX10_out 17 = .ok (.iconst 0, 1) := by decide +kernel
theorem dX10_out_18 : decode cX10_out 18 = .ok (.putfield 173, 3) := by decide +kernel
theorem dX10_out_21 : decode cX10_out 21 = .ok (.aload_n 0, 1) := by decide +kernel
theorem dX10_out_22 : decode cX10_out 22 = .ok (.getfield 173, 3) := by decide +kernel
theorem dX10_out_25 : decode cX10_out 25 = .ok (.ifCond .le 7, 3) := by decide +kernel
theorem dX10_out_28 : decode cX10_out 28 = .ok (.iconst 0, 1) := by decide +kernel
theorem dX10_out_29 : decode cX10_out 29 = .ok (.goto 9, 3) := by decide +kernel
theorem dX10_out_32 : decode cX10_out 32 = .ok (.aload_n 0, 1) := by decide +kernel
theorem dX10_out_33 : decode cX10_out 33 = .ok (.getfield 153, 3) := by decide +kernel
theorem dX10_out_36 : decode cX10_out 36 = .ok (.iload_n 1, 1) := by decide +kernel
theorem dX10_out_37 : decode cX10_out 37 = .ok (.iaload, 1) := by decide +kernel
theorem dX10_out_38 : decode cX10_out 38 = .ok (.ireturn, 1) := by decide +kernel
theorem dX10_cell_0 : decode cX10_cell 0 = .ok (.aload_n 0, 1) := by decide +kernel
theorem dX10_cell_1 : decode cX10_cell 1 = .ok (.iload_n 1, 1) := by decide +kernel
theorem dX10_cell_2 : decode cX10_cell 2 = .ok (.ifCond .lt 23, 3) := by decide +kernel
theorem dX10_cell_5 : decode cX10_cell 5 = .ok (.iload_n 1, 1) := by decide +kernel
theorem dX10_cell_6 : decode cX10_cell 6 = .ok (.aload_n 0, 1) := by decide +kernel
theorem dX10_cell_7 : decode cX10_cell 7 = .ok (.getfield 162, 3) := by decide +kernel
theorem dX10_cell_10 : decode cX10_cell 10 = .ok (.if_icmp .ge 15, 3) := by decide +kernel
theorem dX10_cell_13 : decode cX10_cell 13 = .ok (.iload_n 2, 1) := by decide +kernel
theorem dX10_cell_14 : decode cX10_cell 14 = .ok (.ifCond .lt 11, 3) := by decide +kernel
theorem dX10_cell_17 : decode cX10_cell 17 = .ok (.iload_n 2, 1) := by decide +kernel
theorem dX10_cell_18 : decode cX10_cell 18 = .ok (.aload_n 0, 1) := by decide +kernel
theorem dX10_cell_19 : decode cX10_cell 19 = .ok (.getfield 166, 3) := by decide +kernel
theorem dX10_cell_22 : decode cX10_cell 22 = .ok (.if_icmp .lt 7, 3) := by decide +kernel
theorem dX10_cell_25 : decode cX10_cell 25 = .ok (.iconst 1, 1) := by decide +kernel
theorem dX10_cell_26 : decode cX10_cell 26 = .ok (.goto 4, 3) := by decide +kernel
theorem dX10_cell_29 : decode cX10_cell 29 = .ok (.iconst 0, 1) := by decide +kernel
theorem dX10_cell_30 : decode cX10_cell 30 = .ok (.putfield 173, 3) := by decide +kernel
theorem dX10_cell_33 : decode cX10_cell 33 = .ok (.aload_n 0, 1) := by decide +kernel
theorem dX10_cell_34 : decode cX10_cell 34 = .ok (.getfield 173, 3) := by decide +kernel
theorem dX10_cell_37 : decode cX10_cell 37 = .ok (.ifCond .le 7, 3) := by decide +kernel
theorem dX10_cell_40 : decode cX10_cell 40 = .ok (.iconst 0, 1) := by decide +kernel
theorem dX10_cell_41 : decode cX10_cell 41 = .ok (.goto 10, 3) := by decide +kernel
theorem dX10_cell_44 : decode cX10_cell 44 = .ok (.aload_n 0, 1) := by decide +kernel
theorem dX10_cell_45 : decode cX10_cell 45 = .ok (.iload_n 1, 1) := by decide +kernel
theorem dX10_cell_46 : decode cX10_cell 46 = .ok (.iload_n 2, 1) := by decide +kernel
theorem dX10_cell_47 : decode cX10_cell 47 = .ok (.iload_n 3, 1) := by decide +kernel
theorem dX10_cell_48 : decode cX10_cell 48 = .ok (.invokevirtual 352, 3) := by decide +kernel
theorem dX10_cell_51 : decode cX10_cell 51 = .ok (.ireturn, 1) := by decide +kernel
theorem dX10_about_0 : decode cX10_about 0 = .ok (.aload_n 0, 1) := by decide +kernel
theorem dX10_about_1 : decode cX10_about 1 = .ok (.aload_n 0, 1) := by decide +kernel
theorem dX10_about_2 : decode cX10_about 2 = .ok (.iload_n 1, 1) := by decide +kernel
theorem dX10_about_3 : decode cX10_about 3 = .ok (.invokevirtual 213, 3) := by decide +kernel
theorem dX10_about_6 : decode cX10_about 6 = .ok (.ifCond .eq 7, 3) := by decide +kernel
theorem dX10_about_9 : decode cX10_about 9 = .ok (.iconst 1, 1) := by decide +kernel
theorem dX10_about_10 : decode cX10_about 10 = .ok (.goto 18, 3) := by decide +kernel
theorem dX10_about_13 : decode cX10_about 13 = .ok (.iload_n 2, 1) := by decide +kernel
theorem dX10_about_14 : decode cX10_about 14 = .ok (.ifCond .lt 9, 3) := by decide +kernel
theorem dX10_about_17 : decode cX10_about 17 = .ok (.iload_n 2, 1) := by decide +kernel
theorem dX10_about_18 : decode cX10_about 18 = .ok (.bipush 10, 2) := by decide +kernel
theorem dX10_about_20 : decode cX10_about 20 = .ok (.if_icmp .le 7, 3) := by decide +kernel
theorem dX10_about_23 : decode cX10_about 23 = .ok (.iconst 2, 1) := by decide +kernel
theorem dX10_about_24 : decode cX10_about 24 = .ok (.goto 4, 3) := by decide +kernel
theorem dX10_about_27 : decode cX10_about 27 = .ok (.iconst 0, 1) := by decide +kernel
theorem dX10_about_28 : decode cX10_about 28 = .ok (.putfield 173, 3) := by decide +kernel
theorem dX10_about_31 : decode cX10_about 31 = .ok (.aload_n 0, 1) := by decide +kernel
theorem dX10_about_32 : decode cX10_about 32 = .ok (.getfield 173, 3) := by decide +kernel
theorem dX10_about_35 : decode cX10_about 35 = .ok (.ifCond .le 5, 3) := by decide +kernel
theorem dX10_about_38 : decode cX10_about 38 = .ok (.iconst 0, 1) := by decide +kernel
theorem dX10_about_39 : decode cX10_about 39 = .ok (.ireturn, 1) := by decide +kernel
theorem dX10_about_40 : decode cX10_about 40 = .ok (.aload_n 0, 1) := by decide +kernel
theorem dX10_about_41 : decode cX10_about 41 = .ok (.getfield 50, 3) := by decide +kernel
theorem dX10_about_44 : decode cX10_about 44 = .ok (.iload_n 1, 1) := by decide +kernel
theorem dX10_about_45 : decode cX10_about 45 = .ok (.iaload, 1) := by decide +kernel
theorem dX10_about_46 : decode cX10_about 46 = .ok (.istore_n 3, 1) := by decide +kernel
theorem dX10_about_47 : decode cX10_about 47 = .ok (.iload_n 2, 1) := by decide +kernel
theorem dX10_about_48 : decode cX10_about 48 = .ok (.iconst 4, 1) := by decide +kernel
theorem dX10_about_49 : decode cX10_about 49 = .ok (.if_icmp .ge 51, 3) := by decide +kernel
theorem dX10_about_52 : decode cX10_about 52 = .ok (.iload_n 2, 1) := by decide +kernel
theorem dX10_about_53 : decode cX10_about 53 = .ok (.ifCond .ne 12, 3) := by decide +kernel
theorem dX10_about_56 : decode cX10_about 56 = .ok (.aload_n 0, 1) := by decide +kernel
theorem dX10_about_57 : decode cX10_about 57 = .ok (.getfield 32, 3) := by decide +kernel
theorem dX10_about_60 : decode cX10_about 60 = .ok (.iload_n 3, 1) := by decide +kernel
theorem dX10_about_61 : decode cX10_about 61 = .ok (.iaload, 1) := by decide +kernel
theorem dX10_about_62 : decode cX10_about 62 = .ok (.goto 37, 3) := by decide +kernel
theorem dX10_about_65 : decode cX10_about 65 = .ok (.iload_n 2, 1) := by decide +kernel
theorem dX10_about_66 : decode cX10_about 66 = .ok (.iconst 1, 1) := by decide +kernel
theorem dX10_about_67 : decode cX10_about 67 = .ok (.if_icmp .ne 12, 3) := by decide +kernel
theorem dX10_about_70 : decode cX10_about 70 = .ok (.aload_n 0, 1) := by decide +kernel
theorem dX10_about_71 : decode cX10_about 71 = .ok (.getfield 35, 3) := by decide +kernel
theorem dX10_about_74 : decode cX10_about 74 = .ok (.iload_n 3, 1) := by decide +kernel
theorem dX10_about_75 : decode cX10_about 75 = .ok (.iaload, 1) := by decide +kernel
theorem dX10_about_76 : decode cX10_about 76 = .ok (.goto 23, 3) := by decide +kernel
theorem dX10_about_79 : decode cX10_about 79 = .ok (.iload_n 2, 1) := by decide +kernel
theorem dX10_about_80 : decode cX10_about 80 = .ok (.iconst 2, 1) := by decide +kernel
theorem dX10_about_81 : decode cX10_about 81 = .ok (.if_icmp .ne 12, 3) := by decide +kernel
theorem dX10_about_84 : decode cX10_about 84 = .ok (.aload_n 0, 1) := by decide +kernel
theorem dX10_about_85 : decode cX10_about 85 = .ok (.getfield 53, 3) := by decide +kernel
theorem dX10_about_88 : decode cX10_about 88 = .ok (.iload_n 1, 1) := by decide +kernel
theorem dX10_about_89 : decode cX10_about 89 = .ok (.iaload, 1) := by decide +kernel
theorem dX10_about_90 : decode cX10_about 90 = .ok (.goto 9, 3) := by decide +kernel
theorem dX10_about_93 : decode cX10_about 93 = .ok (.aload_n 0, 1) := by decide +kernel
theorem dX10_about_94 : decode cX10_about 94 = .ok (.getfield 56, 3) := by decide +kernel
theorem dX10_about_97 : decode cX10_about 97 = .ok (.iload_n 1, 1) := by decide +kernel
theorem dX10_about_98 : decode cX10_about 98 = .ok (.iaload, 1) := by decide +kernel
theorem dX10_about_99 : decode cX10_about 99 = .ok (.ireturn, 1) := by decide +kernel
theorem dX10_about_100 : decode cX10_about 100 = .ok (.iload_n 2, 1) := by decide +kernel
theorem dX10_about_101 : decode cX10_about 101 = .ok (.bipush 8, 2) := by decide +kernel
theorem dX10_about_103 : decode cX10_about 103 = .ok (.if_icmp .ge 61, 3) := by decide +kernel
theorem dX10_about_106 : decode cX10_about 106 = .ok (.iload_n 2, 1) := by decide +kernel
theorem dX10_about_107 : decode cX10_about 107 = .ok (.iconst 4, 1) := by decide +kernel
theorem dX10_about_108 : decode cX10_about 108 = .ok (.if_icmp .ne 12, 3) := by decide +kernel
theorem dX10_about_111 : decode cX10_about 111 = .ok (.aload_n 0, 1) := by decide +kernel
theorem dX10_about_112 : decode cX10_about 112 = .ok (.getfield 71, 3) := by decide +kernel
theorem dX10_about_115 : decode cX10_about 115 = .ok (.iload_n 1, 1) := by decide +kernel
theorem dX10_about_116 : decode cX10_about 116 = .ok (.iaload, 1) := by decide +kernel
theorem dX10_about_117 : decode cX10_about 117 = .ok (.goto 46, 3) := by decide +kernel
theorem dX10_about_120 : decode cX10_about 120 = .ok (.iload_n 2, 1) := by decide +kernel
theorem dX10_about_121 : decode cX10_about 121 = .ok (.iconst 5, 1) := by decide +kernel
theorem dX10_about_122 : decode cX10_about 122 = .ok (.if_icmp .ne 12, 3) := by decide +kernel
theorem dX10_about_125 : decode cX10_about 125 = .ok (.aload_n 0, 1) := by decide +kernel
theorem dX10_about_126 : decode cX10_about 126 = .ok (.getfield 68, 3) := by decide +kernel
theorem dX10_about_129 : decode cX10_about 129 = .ok (.iload_n 1, 1) := by decide +kernel
theorem dX10_about_130 : decode cX10_about 130 = .ok (.iaload, 1) := by decide +kernel
theorem dX10_about_131 : decode cX10_about 131 = .ok (.goto 32, 3) := by decide +kernel
theorem dX10_about_134 : decode cX10_about 134 = .ok (.iload_n 2, 1) := by decide +kernel
theorem dX10_about_135 : decode cX10_about 135 = .ok (.bipush 6, 2) := by decide +kernel
theorem dX10_about_137 : decode cX10_about 137 = .ok (.if_icmp .ne 20, 3) := by decide +kernel
theorem dX10_about_140 : decode cX10_about 140 = .ok (.aload_n 0, 1) := by decide +kernel
theorem dX10_about_141 : decode cX10_about 141 = .ok (.getfield 92, 3) := by decide +kernel
theorem dX10_about_144 : decode cX10_about 144 = .ok (.iload_n 1, 1) := by decide +kernel
theorem dX10_about_145 : decode cX10_about 145 = .ok (.baload, 1) := by decide +kernel
theorem dX10_about_146 : decode cX10_about 146 = .ok (.ifCond .eq 7, 3) := by decide +kernel
theorem dX10_about_149 : decode cX10_about 149 = .ok (.iconst 1, 1) := by decide +kernel
theorem dX10_about_150 : decode cX10_about 150 = .ok (.goto 13, 3) := by decide +kernel
theorem dX10_about_153 : decode cX10_about 153 = .ok (.iconst 0, 1) := by decide +kernel
theorem dX10_about_154 : decode cX10_about 154 = .ok (.goto 9, 3) := by decide +kernel
theorem dX10_about_157 : decode cX10_about 157 = .ok (.aload_n 0, 1) := by decide +kernel
theorem dX10_about_158 : decode cX10_about 158 = .ok (.getfield 125, 3) := by decide +kernel
theorem dX10_about_161 : decode cX10_about 161 = .ok (.iload_n 1, 1) := by decide +kernel
theorem dX10_about_162 : decode cX10_about 162 = .ok (.iaload, 1) := by decide +kernel
theorem dX10_about_163 : decode cX10_about 163 = .ok (.ireturn, 1) := by decide +kernel
theorem dX10_about_164 : decode cX10_about 164 = .ok (.iload_n 2, 1) := by decide +kernel
theorem dX10_about_165 : decode cX10_about 165 = .ok (.bipush 8, 2) := by decide +kernel
theorem dX10_about_167 : decode cX10_about 167 = .ok (.if_icmp .ne 12, 3) := by decide +kernel
theorem dX10_about_170 : decode cX10_about 170 = .ok (.aload_n 0, 1) := by decide +kernel
theorem dX10_about_171 : decode cX10_about 171 = .ok (.getfield 74, 3) := by decide +kernel
theorem dX10_about_174 : decode cX10_about 174 = .ok (.iload_n 1, 1) := by decide +kernel
theorem dX10_about_175 : decode cX10_about 175 = .ok (.iaload, 1) := by decide +kernel
theorem dX10_about_176 : decode cX10_about 176 = .ok (.goto 32, 3) := by decide +kernel
theorem dX10_about_179 : decode cX10_about 179 = .ok (.iload_n 2, 1) := by decide +kernel
theorem dX10_about_180 : decode cX10_about 180 = .ok (.bipush 9, 2) := by decide +kernel
theorem dX10_about_182 : decode cX10_about 182 = .ok (.if_icmp .ne 20, 3) := by decide +kernel
theorem dX10_about_185 : decode cX10_about 185 = .ok (.aload_n 0, 1) := by decide +kernel
theorem dX10_about_186 : decode cX10_about 186 = .ok (.getfield 128, 3) := by decide +kernel
theorem dX10_about_189 : decode cX10_about 189 = .ok (.iload_n 1, 1) := by decide +kernel
theorem dX10_about_190 : decode cX10_about 190 = .ok (.baload, 1) := by decide +kernel
theorem dX10_about_191 : decode cX10_about 191 = .ok (.ifCond .eq 7, 3) := by decide +kernel
theorem dX10_about_194 : decode cX10_about 194 = .ok (.iconst 1, 1) := by decide +kernel
theorem dX10_about_195 : decode cX10_about 195 = .ok (.goto 13, 3) := by decide +kernel
theorem dX10_about_198 : decode cX10_about 198 = .ok (.iconst 0, 1) := by decide +kernel
theorem dX10_about_199 : decode cX10_about 199 = .ok (.goto 9, 3) := by decide +kernel
theorem dX10_about_202 : decode cX10_about 202 = .ok (.aload_n 0, 1) := by decide +kernel
theorem dX10_about_203 : decode cX10_about 203 = .ok (.getfield 134, 3) := by decide +kernel
theorem dX10_about_206 : decode cX10_about 206 = .ok (.iload_n 1, 1) := by decide +kernel
theorem dX10_about_207 : decode cX10_about 207 = .ok (.iaload, 1) := by decide +kernel
theorem dX10_about_208 : decode cX10_about 208 = .ok (.ireturn, 1) := by decide +kernel
theorem dX10_input_0 : decode cX10_input 0 = .ok (.aload_n 0, 1) := by decide +kernel
theorem dX10_input_1 : decode cX10_input 1 = .ok (.iload_n 1, 1) := by decide +kernel
theorem dX10_input_2 : decode cX10_input 2 = .ok (.invokevirtual 213, 3) := by decide +kernel
theorem dX10_input_5 : decode cX10_input 5 = .ok (.ifCond .ne 14, 3) := by decide +kernel
theorem dX10_input_8 : decode cX10_input 8 = .ok (.aload_n 0, 1) := by decide +kernel
theorem dX10_input_9 : decode cX10_input 9 = .ok (.getfield 134, 3) := by decide +kernel
theorem dX10_input_12 : decode cX10_input 12 = .ok (.iload_n 1, 1) := by decide +kernel
theorem dX10_input_13 : decode cX10_input 13 = .ok (.iaload, 1) := by decide +kernel
theorem dX10_input_14 : decode cX10_input 14 = .ok (.bipush 64, 2) := by decide +kernel
theorem dX10_input_16 : decode cX10_input 16 = .ok (.if_icmp .ge 7, 3) := by decide +kernel
theorem dX10_input_19 : decode cX10_input 19 = .ok (.iconst 0, 1) := by decide +kernel
theorem dX10_input_20 : decode cX10_input 20 = .ok (.goto 12, 3) := by decide +kernel
theorem dX10_input_23 : decode cX10_input 23 = .ok (.aload_n 0, 1) := by decide +kernel
theorem dX10_input_24 : decode cX10_input 24 = .ok (.getfield 134, 3) := by decide +kernel
theorem dX10_input_27 : decode cX10_input 27 = .ok (.iload_n 1, 1) := by decide +kernel
theorem dX10_input_28 : decode cX10_input 28 = .ok (.iaload, 1) := by decide +kernel
theorem dX10_input_29 : decode cX10_input 29 = .ok (.bipush 64, 2) := by decide +kernel
theorem dX10_input_31 : decode cX10_input 31 = .ok (.isub, 1) := by decide +kernel
theorem dX10_input_32 : decode cX10_input 32 = .ok (.istore_n 3, 1) := by decide +kernel
theorem dX10_input_33 : decode cX10_input 33 = .ok (.aload_n 0, 1) := by decide +kernel
theorem dX10_input_34 : decode cX10_input 34 = .ok (.aload_n 0, 1) := by decide +kernel
theorem dX10_input_35 : decode cX10_input 35 = .ok (.iload_n 1, 1) := by decide +kernel
theorem dX10_input_36 : decode cX10_input 36 = .ok (.invokevirtual 213, 3) := by decide +kernel
theorem dX10_input_39 : decode cX10_input 39 = .ok (.ifCond .ne 19, 3) := by decide +kernel
theorem dX10_input_42 : decode cX10_input 42 = .ok (.iload_n 2, 1) := by decide +kernel
theorem dX10_input_43 : decode cX10_input 43 = .ok (.ifCond .lt 15, 3) := by decide +kernel
theorem dX10_input_46 : decode cX10_input 46 = .ok (.iload_n 2, 1) := by decide +kernel
theorem dX10_input_47 : decode cX10_input 47 = .ok (.aload_n 0, 1) := by decide +kernel
theorem dX10_input_48 : decode cX10_input 48 = .ok (.getfield 134, 3) := by decide +kernel
theorem dX10_input_51 : decode cX10_input 51 = .ok (.iload_n 1, 1) := by decide +kernel
theorem dX10_input_52 : decode cX10_input 52 = .ok (.iaload, 1) := by decide +kernel
theorem dX10_input_53 : decode cX10_input 53 = .ok (.iload_n 3, 1) := by decide +kernel
theorem dX10_input_54 : decode cX10_input 54 = .ok (.isub, 1) := by decide +kernel
theorem dX10_input_55 : decode cX10_input 55 = .ok (.if_icmp .lt 7, 3) := by decide +kernel
theorem dX10_input_58 : decode cX10_input 58 = .ok (.iconst 1, 1) := by decide +kernel
theorem dX10_input_59 : decode cX10_input 59 = .ok (.goto 4, 3) := by decide +kernel
theorem dX10_input_62 : decode cX10_input 62 = .ok (.iconst 0, 1) := by decide +kernel
theorem dX10_input_63 : decode cX10_input 63 = .ok (.putfield 173, 3) := by decide +kernel
theorem dX10_input_66 : decode cX10_input 66 = .ok (.aload_n 0, 1) := by decide +kernel
theorem dX10_input_67 : decode cX10_input 67 = .ok (.getfield 173, 3) := by decide +kernel
theorem dX10_input_70 : decode cX10_input 70 = .ok (.ifCond .le 7, 3) := by decide +kernel
theorem dX10_input_73 : decode cX10_input 73 = .ok (.iconst 0, 1) := by decide +kernel
theorem dX10_input_74 : decode cX10_input 74 = .ok (.goto 19, 3) := by decide +kernel
theorem dX10_input_77 : decode cX10_input 77 = .ok (.aload_n 0, 1) := by decide +kernel
theorem dX10_input_78 : decode cX10_input 78 = .ok (.getfield 137, 3) := by decide +kernel
theorem dX10_input_81 : decode cX10_input 81 = .ok (.bipush 64, 2) := by decide +kernel
theorem dX10_input_83 : decode cX10_input 83 = .ok (.iload_n 1, 1) := by decide +kernel
theorem dX10_input_84 : decode cX10_input 84 = .ok (.imul, 1) := by decide +kernel
theorem dX10_input_85 : decode cX10_input 85 = .ok (.iload_n 3, 1) := by decide +kernel
theorem dX10_input_86 : decode cX10_input 86 = .ok (.iload_n 2, 1) := by decide +kernel
theorem dX10_input_87 : decode cX10_input 87 = .ok (.iadd, 1) := by decide +kernel
theorem dX10_input_88 : decode cX10_input 88 = .ok (.bipush 64, 2) := by decide +kernel
theorem dX10_input_90 : decode cX10_input 90 = .ok (.irem, 1) := by decide +kernel
theorem dX10_input_91 : decode cX10_input 91 = .ok (.iadd, 1) := by decide +kernel
theorem dX10_input_92 : decode cX10_input 92 = .ok (.iaload, 1) := by decide +kernel
theorem dX10_input_93 : decode cX10_input 93 = .ok (.ireturn, 1) := by decide +kernel
theorem dX10_copied_0 : decode cX10_copied 0 = .ok (.aload_n 0, 1) := by decide +kernel
theorem dX10_copied_1 : decode cX10_copied 1 = .ok (.iload_n 1, 1) := by decide +kernel
theorem dX10_copied_2 : decode cX10_copied 2 = .ok (.ifCond .lt 11, 3) := by decide +kernel
theorem dX10_copied_5 : decode cX10_copied 5 = .ok (.iload_n 1, 1) := by decide +kernel
theorem dX10_copied_6 : decode cX10_copied 6 = .ok (.aload_n 0, 1) := by decide +kernel
theorem dX10_copied_7 : decode cX10_copied 7 = .ok (.getfield 308, 3) := by decide +kernel
theorem dX10_copied_10 : decode cX10_copied 10 = .ok (.if_icmp .lt 7, 3) := by decide +kernel
theorem dX10_copied_13 : decode cX10_copied 13 = .ok (.iconst 1, 1) := by decide +kernel
theorem dX10_copied_14 : decode cX10_copied 14 = .ok (.goto 4, 3) := by decide +kernel
theorem dX10_copied_17 : decode cX10_copied 17 = .ok (.iconst 0, 1) := by decide +kernel
theorem dX10_copied_18 : decode cX10_copied 18 = .ok (.putfield 173, 3) := by decide +kernel
theorem dX10_copied_21 : decode cX10_copied 21 = .ok (.aload_n 0, 1) := by decide +kernel
theorem dX10_copied_22 : decode cX10_copied 22 = .ok (.getfield 173, 3) := by decide +kernel
theorem dX10_copied_25 : decode cX10_copied 25 = .ok (.ifCond .le 7, 3) := by decide +kernel
theorem dX10_copied_28 : decode cX10_copied 28 = .ok (.iconst 0, 1) := by decide +kernel
theorem dX10_copied_29 : decode cX10_copied 29 = .ok (.goto 9, 3) := by decide +kernel
theorem dX10_copied_32 : decode cX10_copied 32 = .ok (.aload_n 0, 1) := by decide +kernel
theorem dX10_copied_33 : decode cX10_copied 33 = .ok (.getfield 140, 3) := by decide +kernel
theorem dX10_copied_36 : decode cX10_copied 36 = .ok (.iload_n 1, 1) := by decide +kernel
theorem dX10_copied_37 : decode cX10_copied 37 = .ok (.iaload, 1) := by decide +kernel
theorem dX10_copied_38 : decode cX10_copied 38 = .ok (.ireturn, 1) := by decide +kernel
theorem dX10_count_0 : decode cX10_count 0 = .ok (.aload_n 0, 1) := by decide +kernel
theorem dX10_count_1 : decode cX10_count 1 = .ok (.iload_n 1, 1) := by decide +kernel
theorem dX10_count_2 : decode cX10_count 2 = .ok (.ifCond .lt 8, 3) := by decide +kernel
theorem dX10_count_5 : decode cX10_count 5 = .ok (.iload_n 1, 1) := by decide +kernel
theorem dX10_count_6 : decode cX10_count 6 = .ok (.iconst 5, 1) := by decide +kernel
theorem dX10_count_7 : decode cX10_count 7 = .ok (.if_icmp .le 7, 3) := by decide +kernel
theorem dX10_count_10 : decode cX10_count 10 = .ok (.iconst 1, 1) := by decide +kernel
theorem dX10_count_11 : decode cX10_count 11 = .ok (.goto 4, 3) := by decide +kernel
theorem dX10_count_14 : decode cX10_count 14 = .ok (.iconst 0, 1) := by decide +kernel
theorem dX10_count_15 : decode cX10_count 15 = .ok (.putfield 173, 3) := by decide +kernel
theorem dX10_count_18 : decode cX10_count 18 = .ok (.aload_n 0, 1) := by decide +kernel
theorem dX10_count_19 : decode cX10_count 19 = .ok (.getfield 173, 3) := by decide +kernel
theorem dX10_count_22 : decode cX10_count 22 = .ok (.ifCond .le 5, 3) := by decide +kernel
theorem dX10_count_25 : decode cX10_count 25 = .ok (.iconst 0, 1) := by decide +kernel
theorem dX10_count_26 : decode cX10_count 26 = .ok (.ireturn, 1) := by decide +kernel
theorem dX10_count_27 : decode cX10_count 27 = .ok (.aload_n 0, 1) := by decide +kernel
theorem dX10_count_28 : decode cX10_count 28 = .ok (.getfield 50, 3) := by decide +kernel
theorem dX10_count_31 : decode cX10_count 31 = .ok (.aload_n 0, 1) := by decide +kernel
theorem dX10_count_32 : decode cX10_count 32 = .ok (.getfield 207, 3) := by decide +kernel
theorem dX10_count_35 : decode cX10_count 35 = .ok (.iaload, 1) := by decide +kernel
theorem dX10_count_36 : decode cX10_count 36 = .ok (.istore_n 2, 1) := by decide +kernel
theorem dX10_count_37 : decode cX10_count 37 = .ok (.iload_n 1, 1) := by decide +kernel
theorem dX10_count_38 : decode cX10_count 38 = .ok (.ifCond .ne 10, 3) := by decide +kernel
theorem dX10_count_41 : decode cX10_count 41 = .ok (.aload_n 0, 1) := by decide +kernel
theorem dX10_count_42 : decode cX10_count 42 = .ok (.invokevirtual 225, 3) := by decide +kernel
theorem dX10_count_45 : decode cX10_count 45 = .ok (.goto 87, 3) := by decide +kernel
theorem dX10_count_48 : decode cX10_count 48 = .ok (.iload_n 1, 1) := by decide +kernel
theorem dX10_count_49 : decode cX10_count 49 = .ok (.iconst 1, 1) := by decide +kernel
theorem dX10_count_50 : decode cX10_count 50 = .ok (.if_icmp .ne 10, 3) := by decide +kernel
theorem dX10_count_53 : decode cX10_count 53 = .ok (.aload_n 0, 1) := by decide +kernel
theorem dX10_count_54 : decode cX10_count 54 = .ok (.getfield 207, 3) := by decide +kernel
theorem dX10_count_57 : decode cX10_count 57 = .ok (.goto 75, 3) := by decide +kernel
theorem dX10_count_60 : decode cX10_count 60 = .ok (.iload_n 1, 1) := by decide +kernel
theorem dX10_count_61 : decode cX10_count 61 = .ok (.iconst 2, 1) := by decide +kernel
theorem dX10_count_62 : decode cX10_count 62 = .ok (.if_icmp .ne 22, 3) := by decide +kernel
theorem dX10_count_65 : decode cX10_count 65 = .ok (.aload_n 0, 1) := by decide +kernel
theorem dX10_count_66 : decode cX10_count 66 = .ok (.getfield 32, 3) := by decide +kernel
theorem dX10_count_69 : decode cX10_count 69 = .ok (.iload_n 2, 1) := by decide +kernel
theorem dX10_count_70 : decode cX10_count 70 = .ok (.iaload, 1) := by decide +kernel
theorem dX10_count_71 : decode cX10_count 71 = .ok (.aload_n 0, 1) := by decide +kernel
theorem dX10_count_72 : decode cX10_count 72 = .ok (.getfield 71, 3) := by decide +kernel
theorem dX10_count_75 : decode cX10_count 75 = .ok (.aload_n 0, 1) := by decide +kernel
theorem dX10_count_76 : decode cX10_count 76 = .ok (.getfield 207, 3) := by decide +kernel
theorem dX10_count_79 : decode cX10_count 79 = .ok (.iaload, 1) := by decide +kernel
theorem dX10_count_80 : decode cX10_count 80 = .ok (.iadd, 1) := by decide +kernel
theorem dX10_count_81 : decode cX10_count 81 = .ok (.goto 51, 3) := by decide +kernel
theorem dX10_count_84 : decode cX10_count 84 = .ok (.iload_n 1, 1) := by decide +kernel
theorem dX10_count_85 : decode cX10_count 85 = .ok (.iconst 3, 1) := by decide +kernel
theorem dX10_count_86 : decode cX10_count 86 = .ok (.if_icmp .ne 22, 3) := by decide +kernel
theorem dX10_count_89 : decode cX10_count 89 = .ok (.aload_n 0, 1) := by decide +kernel
theorem dX10_count_90 : decode cX10_count 90 = .ok (.getfield 35, 3) := by decide +kernel
theorem dX10_count_93 : decode cX10_count 93 = .ok (.iload_n 2, 1) := by decide +kernel
theorem dX10_count_94 : decode cX10_count 94 = .ok (.iaload, 1) := by decide +kernel
theorem dX10_count_95 : decode cX10_count 95 = .ok (.aload_n 0, 1) := by decide +kernel
theorem dX10_count_96 : decode cX10_count 96 = .ok (.getfield 68, 3) := by decide +kernel
theorem dX10_count_99 : decode cX10_count 99 = .ok (.aload_n 0, 1) := by decide +kernel
theorem dX10_count_100 : decode cX10_count 100 = .ok (.getfield 207, 3) := by decide +kernel
theorem dX10_count_103 : decode cX10_count 103 = .ok (.iaload, 1) := by decide +kernel
theorem dX10_count_104 : decode cX10_count 104 = .ok (.iadd, 1) := by decide +kernel
theorem dX10_count_105 : decode cX10_count 105 = .ok (.goto 27, 3) := by decide +kernel
theorem dX10_count_108 : decode cX10_count 108 = .ok (.iload_n 1, 1) := by decide +kernel
theorem dX10_count_109 : decode cX10_count 109 = .ok (.iconst 4, 1) := by decide +kernel
theorem dX10_count_110 : decode cX10_count 110 = .ok (.if_icmp .ne 18, 3) := by decide +kernel
theorem dX10_count_113 : decode cX10_count 113 = .ok (.aload_n 0, 1) := by decide +kernel
theorem dX10_count_114 : decode cX10_count 114 = .ok (.invokevirtual 362, 3) := by decide +kernel
theorem dX10_count_117 : decode cX10_count 117 = .ok (.ifCond .eq 7, 3) := by decide +kernel
theorem dX10_count_120 : decode cX10_count 120 = .ok (.iconst 1, 1) := by decide +kernel
theorem dX10_count_121 : decode cX10_count 121 = .ok (.goto 11, 3) := by decide +kernel
theorem dX10_count_124 : decode cX10_count 124 = .ok (.iconst 0, 1) := by decide +kernel
theorem dX10_count_125 : decode cX10_count 125 = .ok (.goto 7, 3) := by decide +kernel
theorem dX10_count_128 : decode cX10_count 128 = .ok (.aload_n 0, 1) := by decide +kernel
theorem dX10_count_129 : decode cX10_count 129 = .ok (.getfield 308, 3) := by decide +kernel
theorem dX10_count_132 : decode cX10_count 132 = .ok (.ireturn, 1) := by decide +kernel
theorem dL_cell_0 : decode cL_cell 0 = .ok (.iload_n 1, 1) := by decide +kernel
theorem dL_cell_1 : decode cL_cell 1 = .ok (.aload_n 0, 1) := by decide +kernel
theorem dL_cell_2 : decode cL_cell 2 = .ok (.arraylength, 1) := by decide +kernel
theorem dL_cell_3 : decode cL_cell 3 = .ok (.if_icmp .ge 9, 3) := by decide +kernel
theorem dL_cell_6 : decode cL_cell 6 = .ok (.aload_n 0, 1) := by decide +kernel
theorem dL_cell_7 : decode cL_cell 7 = .ok (.iload_n 1, 1) := by decide +kernel
theorem dL_cell_8 : decode cL_cell 8 = .ok (.iaload, 1) := by decide +kernel
theorem dL_cell_9 : decode cL_cell 9 = .ok (.goto 4, 3) := by decide +kernel
theorem dL_cell_12 : decode cL_cell 12 = .ok (.iconst 0, 1) := by decide +kernel
theorem dL_cell_13 : decode cL_cell 13 = .ok (.ireturn, 1) := by decide +kernel
theorem dL_feed_0 : decode cL_feed 0 = .ok (.aload_n 0, 1) := by decide +kernel
theorem dL_feed_1 : decode cL_feed 1 = .ok (.iload_n 1, 1) := by decide +kernel
theorem dL_feed_2 : decode cL_feed 2 = .ok (.lload_n 2, 1) := by decide +kernel
theorem dL_feed_3 : decode cL_feed 3 = .ok (.iload 4, 2) := by decide +kernel
theorem dL_feed_5 : decode cL_feed 5 = .ok (.invokevirtual 7, 3) := by decide +kernel
theorem dL_feed_8 : decode cL_feed 8 = .ok (.goto 11, 3) := by decide +kernel
theorem dL_feed_11 : decode cL_feed 11 = .ok (.astore 5, 2) := by decide +kernel
theorem dL_feed_13 : decode cL_feed 13 = .ok (.iconst 1, 1) := by decide +kernel
theorem dL_feed_14 : decode cL_feed 14 = .ok (.ireturn, 1) := by decide +kernel
theorem dL_feed_15 : decode cL_feed 15 = .ok (.astore 5, 2) := by decide +kernel
theorem dL_feed_17 : decode cL_feed 17 = .ok (.iconst 2, 1) := by decide +kernel
theorem dL_feed_18 : decode cL_feed 18 = .ok (.ireturn, 1) := by decide +kernel
theorem dL_feed_19 : decode cL_feed 19 = .ok (.iconst 0, 1) := by decide +kernel
theorem dL_feed_20 : decode cL_feed 20 = .ok (.ireturn, 1) := by decide +kernel
theorem dL_key_0 : decode cL_key 0 = .ok (.aload_n 2, 1) := by decide +kernel
theorem dL_key_1 : decode cL_key 1 = .ok (.iconst 0, 1) := by decide +kernel
theorem dL_key_2 : decode cL_key 2 = .ok (.aload_n 0, 1) := by decide +kernel
theorem dL_key_3 : decode cL_key 3 = .ok (.iload_n 1, 1) := by decide +kernel
theorem dL_key_4 : decode cL_key 4 = .ok (.invokevirtual 17, 3) := by decide +kernel
theorem dL_key_7 : decode cL_key 7 = .ok (.i2l, 1) := by decide +kernel
theorem dL_key_8 : decode cL_key 8 = .ok (.lastore, 1) := by decide +kernel
theorem dL_key_9 : decode cL_key 9 = .ok (.goto 6, 3) := by decide +kernel
theorem dL_key_12 : decode cL_key 12 = .ok (.astore_n 3, 1) := by decide +kernel
theorem dL_key_13 : decode cL_key 13 = .ok (.iconst 1, 1) := by decide +kernel
theorem dL_key_14 : decode cL_key 14 = .ok (.ireturn, 1) := by decide +kernel
theorem dL_key_15 : decode cL_key 15 = .ok (.iconst 0, 1) := by decide +kernel
theorem dL_key_16 : decode cL_key 16 = .ok (.ireturn, 1) := by decide +kernel
theorem dL_split_0 : decode cL_split 0 = .ok (.aload_n 3, 1) := by decide +kernel
theorem dL_split_1 : decode cL_split 1 = .ok (.iconst 0, 1) := by decide +kernel
theorem dL_split_2 : decode cL_split 2 = .ok (.aload_n 0, 1) := by decide +kernel
theorem dL_split_3 : decode cL_split 3 = .ok (.iload_n 1, 1) := by decide +kernel
theorem dL_split_4 : decode cL_split 4 = .ok (.iload_n 2, 1) := by decide +kernel
theorem dL_split_5 : decode cL_split 5 = .ok (.invokevirtual 21, 3) := by decide +kernel
theorem dL_split_8 : decode cL_split 8 = .ok (.i2l, 1) := by decide +kernel
theorem dL_split_9 : decode cL_split 9 = .ok (.lastore, 1) := by decide +kernel
theorem dL_split_10 : decode cL_split 10 = .ok (.goto 11, 3) := by decide +kernel
theorem dL_split_13 : decode cL_split 13 = .ok (.astore 4, 2) := by decide +kernel
theorem dL_split_15 : decode cL_split 15 = .ok (.iconst 1, 1) := by decide +kernel
theorem dL_split_16 : decode cL_split 16 = .ok (.ireturn, 1) := by decide +kernel
theorem dL_split_17 : decode cL_split 17 = .ok (.astore 4, 2) := by decide +kernel
theorem dL_split_19 : decode cL_split 19 = .ok (.iconst 2, 1) := by decide +kernel
theorem dL_split_20 : decode cL_split 20 = .ok (.ireturn, 1) := by decide +kernel
theorem dL_split_21 : decode cL_split 21 = .ok (.iconst 0, 1) := by decide +kernel
theorem dL_split_22 : decode cL_split 22 = .ok (.ireturn, 1) := by decide +kernel
theorem dL_close_0 : decode cL_close 0 = .ok (.aload_n 2, 1) := by decide +kernel
theorem dL_close_1 : decode cL_close 1 = .ok (.iconst 0, 1) := by decide +kernel
theorem dL_close_2 : decode cL_close 2 = .ok (.aload_n 0, 1) := by decide +kernel
theorem dL_close_3 : decode cL_close 3 = .ok (.iload_n 1, 1) := by decide +kernel
theorem dL_close_4 : decode cL_close 4 = .ok (.invokevirtual 27, 3) := by decide +kernel
theorem dL_close_7 : decode cL_close 7 = .ok (.i2l, 1) := by decide +kernel
theorem dL_close_8 : decode cL_close 8 = .ok (.lastore, 1) := by decide +kernel
theorem dL_close_9 : decode cL_close 9 = .ok (.goto 9, 3) := by decide +kernel
theorem dL_close_12 : decode cL_close 12 = .ok (.astore_n 3, 1) := by decide +kernel
theorem dL_close_13 : decode cL_close 13 = .ok (.iconst 1, 1) := by decide +kernel
theorem dL_close_14 : decode cL_close 14 = .ok (.ireturn, 1) := by decide +kernel
theorem dL_close_15 : decode cL_close 15 = .ok (.astore_n 3, 1) := by decide +kernel
theorem dL_close_16 : decode cL_close 16 = .ok (.iconst 2, 1) := by decide +kernel
theorem dL_close_17 : decode cL_close 17 = .ok (.ireturn, 1) := by decide +kernel
theorem dL_close_18 : decode cL_close 18 = .ok (.iconst 0, 1) := by decide +kernel
theorem dL_close_19 : decode cL_close 19 = .ok (.ireturn, 1) := by decide +kernel
theorem dL_focus_0 : decode cL_focus 0 = .ok (.aload_n 0, 1) := by decide +kernel
theorem dL_focus_1 : decode cL_focus 1 = .ok (.iload_n 1, 1) := by decide +kernel
theorem dL_focus_2 : decode cL_focus 2 = .ok (.invokevirtual 30, 3) := by decide +kernel
theorem dL_focus_5 : decode cL_focus 5 = .ok (.goto 6, 3) := by decide +kernel
theorem dL_focus_8 : decode cL_focus 8 = .ok (.astore_n 2, 1) := by decide +kernel
theorem dL_focus_9 : decode cL_focus 9 = .ok (.iconst 1, 1) := by decide +kernel
theorem dL_focus_10 : decode cL_focus 10 = .ok (.ireturn, 1) := by decide +kernel
theorem dL_focus_11 : decode cL_focus 11 = .ok (.iconst 0, 1) := by decide +kernel
theorem dL_focus_12 : decode cL_focus 12 = .ok (.ireturn, 1) := by decide +kernel
theorem dL_copy_0 : decode cL_copy 0 = .ok (.aload 4, 2) := by decide +kernel
theorem dL_copy_2 : decode cL_copy 2 = .ok (.iconst 0, 1) := by decide +kernel
theorem dL_copy_3 : decode cL_copy 3 = .ok (.aload_n 0, 1) := by decide +kernel
theorem dL_copy_4 : decode cL_copy 4 = .ok (.iload_n 1, 1) := by decide +kernel
theorem dL_copy_5 : decode cL_copy 5 = .ok (.iload_n 2, 1) := by decide +kernel
theorem dL_copy_6 : decode cL_copy 6 = .ok (.iload_n 3, 1) := by decide +kernel
theorem dL_copy_7 : decode cL_copy 7 = .ok (.invokevirtual 34, 3) := by decide +kernel
theorem dL_copy_10 : decode cL_copy 10 = .ok (.i2l, 1) := by decide +kernel
theorem dL_copy_11 : decode cL_copy 11 = .ok (.lastore, 1) := by decide +kernel
theorem dL_copy_12 : decode cL_copy 12 = .ok (.goto 7, 3) := by decide +kernel
theorem dL_copy_15 : decode cL_copy 15 = .ok (.astore 5, 2) := by decide +kernel
theorem dL_copy_17 : decode cL_copy 17 = .ok (.iconst 1, 1) := by decide +kernel
theorem dL_copy_18 : decode cL_copy 18 = .ok (.ireturn, 1) := by decide +kernel
theorem dL_copy_19 : decode cL_copy 19 = .ok (.iconst 0, 1) := by decide +kernel
theorem dL_copy_20 : decode cL_copy 20 = .ok (.ireturn, 1) := by decide +kernel
theorem dL_select_0 : decode cL_select 0 = .ok (.aload 6, 2) := by decide +kernel
theorem dL_select_2 : decode cL_select 2 = .ok (.iconst 0, 1) := by decide +kernel
theorem dL_select_3 : decode cL_select 3 = .ok (.aload_n 0, 1) := by decide +kernel
theorem dL_select_4 : decode cL_select 4 = .ok (.iload_n 1, 1) := by decide +kernel
theorem dL_select_5 : decode cL_select 5 = .ok (.iload_n 2, 1) := by decide +kernel
theorem dL_select_6 : decode cL_select 6 = .ok (.iload_n 3, 1) := by decide +kernel
theorem dL_select_7 : decode cL_select 7 = .ok (.iload 4, 2) := by decide +kernel
theorem dL_select_9 : decode cL_select 9 = .ok (.iload 5, 2) := by decide +kernel
theorem dL_select_11 : decode cL_select 11 = .ok (.invokevirtual 38, 3) := by decide +kernel
theorem dL_select_14 : decode cL_select 14 = .ok (.i2l, 1) := by decide +kernel
theorem dL_select_15 : decode cL_select 15 = .ok (.lastore, 1) := by decide +kernel
theorem dL_select_16 : decode cL_select 16 = .ok (.goto 11, 3) := by decide +kernel
theorem dL_select_19 : decode cL_select 19 = .ok (.astore 7, 2) := by decide +kernel
theorem dL_select_21 : decode cL_select 21 = .ok (.iconst 1, 1) := by decide +kernel
theorem dL_select_22 : decode cL_select 22 = .ok (.ireturn, 1) := by decide +kernel
theorem dL_select_23 : decode cL_select 23 = .ok (.astore 7, 2) := by decide +kernel
theorem dL_select_25 : decode cL_select 25 = .ok (.iconst 2, 1) := by decide +kernel
theorem dL_select_26 : decode cL_select 26 = .ok (.ireturn, 1) := by decide +kernel
theorem dL_select_27 : decode cL_select 27 = .ok (.iconst 0, 1) := by decide +kernel
theorem dL_select_28 : decode cL_select 28 = .ok (.ireturn, 1) := by decide +kernel
theorem dL_out_0 : decode cL_out 0 = .ok (.aload_n 2, 1) := by decide +kernel
theorem dL_out_1 : decode cL_out 1 = .ok (.iconst 0, 1) := by decide +kernel
theorem dL_out_2 : decode cL_out 2 = .ok (.aload_n 0, 1) := by decide +kernel
theorem dL_out_3 : decode cL_out 3 = .ok (.iload_n 1, 1) := by decide +kernel
theorem dL_out_4 : decode cL_out 4 = .ok (.invokevirtual 42, 3) := by decide +kernel
theorem dL_out_7 : decode cL_out 7 = .ok (.i2l, 1) := by decide +kernel
theorem dL_out_8 : decode cL_out 8 = .ok (.lastore, 1) := by decide +kernel
theorem dL_out_9 : decode cL_out 9 = .ok (.goto 6, 3) := by decide +kernel
theorem dL_out_12 : decode cL_out 12 = .ok (.astore_n 3, 1) := by decide +kernel
theorem dL_out_13 : decode cL_out 13 = .ok (.iconst 1, 1) := by decide +kernel
theorem dL_out_14 : decode cL_out 14 = .ok (.ireturn, 1) := by decide +kernel
theorem dL_out_15 : decode cL_out 15 = .ok (.iconst 0, 1) := by decide +kernel
theorem dL_out_16 : decode cL_out 16 = .ok (.ireturn, 1) := by decide +kernel
theorem dL_cell__0 : decode cL_cell_ 0 = .ok (.aload 4, 2) := by decide +kernel
theorem dL_cell__2 : decode cL_cell_ 2 = .ok (.iconst 0, 1) := by decide +kernel
theorem dL_cell__3 : decode cL_cell_ 3 = .ok (.aload_n 0, 1) := by decide +kernel
theorem dL_cell__4 : decode cL_cell_ 4 = .ok (.iload_n 1, 1) := by decide +kernel
theorem dL_cell__5 : decode cL_cell_ 5 = .ok (.iload_n 2, 1) := by decide +kernel
theorem dL_cell__6 : decode cL_cell_ 6 = .ok (.iload_n 3, 1) := by decide +kernel
theorem dL_cell__7 : decode cL_cell_ 7 = .ok (.invokevirtual 45, 3) := by decide +kernel
theorem dL_cell__10 : decode cL_cell_ 10 = .ok (.i2l, 1) := by decide +kernel
theorem dL_cell__11 : decode cL_cell_ 11 = .ok (.lastore, 1) := by decide +kernel
theorem dL_cell__12 : decode cL_cell_ 12 = .ok (.goto 7, 3) := by decide +kernel
theorem dL_cell__15 : decode cL_cell_ 15 = .ok (.astore 5, 2) := by decide +kernel
theorem dL_cell__17 : decode cL_cell_ 17 = .ok (.iconst 1, 1) := by decide +kernel
theorem dL_cell__18 : decode cL_cell_ 18 = .ok (.ireturn, 1) := by decide +kernel
theorem dL_cell__19 : decode cL_cell_ 19 = .ok (.iconst 0, 1) := by decide +kernel
theorem dL_cell__20 : decode cL_cell_ 20 = .ok (.ireturn, 1) := by decide +kernel
theorem dL_about_0 : decode cL_about 0 = .ok (.aload_n 3, 1) := by decide +kernel
theorem dL_about_1 : decode cL_about 1 = .ok (.iconst 0, 1) := by decide +kernel
theorem dL_about_2 : decode cL_about 2 = .ok (.aload_n 0, 1) := by decide +kernel
theorem dL_about_3 : decode cL_about 3 = .ok (.iload_n 1, 1) := by decide +kernel
theorem dL_about_4 : decode cL_about 4 = .ok (.iload_n 2, 1) := by decide +kernel
theorem dL_about_5 : decode cL_about 5 = .ok (.invokevirtual 49, 3) := by decide +kernel
theorem dL_about_8 : decode cL_about 8 = .ok (.i2l, 1) := by decide +kernel
theorem dL_about_9 : decode cL_about 9 = .ok (.lastore, 1) := by decide +kernel
theorem dL_about_10 : decode cL_about 10 = .ok (.goto 11, 3) := by decide +kernel
theorem dL_about_13 : decode cL_about 13 = .ok (.astore 4, 2) := by decide +kernel
theorem dL_about_15 : decode cL_about 15 = .ok (.iconst 1, 1) := by decide +kernel
theorem dL_about_16 : decode cL_about 16 = .ok (.ireturn, 1) := by decide +kernel
theorem dL_about_17 : decode cL_about 17 = .ok (.astore 4, 2) := by decide +kernel
theorem dL_about_19 : decode cL_about 19 = .ok (.iconst 2, 1) := by decide +kernel
theorem dL_about_20 : decode cL_about 20 = .ok (.ireturn, 1) := by decide +kernel
theorem dL_about_21 : decode cL_about 21 = .ok (.iconst 0, 1) := by decide +kernel
theorem dL_about_22 : decode cL_about 22 = .ok (.ireturn, 1) := by decide +kernel
theorem dL_input_0 : decode cL_input 0 = .ok (.aload_n 3, 1) := by decide +kernel
theorem dL_input_1 : decode cL_input 1 = .ok (.iconst 0, 1) := by decide +kernel
theorem dL_input_2 : decode cL_input 2 = .ok (.aload_n 0, 1) := by decide +kernel
theorem dL_input_3 : decode cL_input 3 = .ok (.iload_n 1, 1) := by decide +kernel
theorem dL_input_4 : decode cL_input 4 = .ok (.iload_n 2, 1) := by decide +kernel
theorem dL_input_5 : decode cL_input 5 = .ok (.invokevirtual 53, 3) := by decide +kernel
theorem dL_input_8 : decode cL_input 8 = .ok (.i2l, 1) := by decide +kernel
theorem dL_input_9 : decode cL_input 9 = .ok (.lastore, 1) := by decide +kernel
theorem dL_input_10 : decode cL_input 10 = .ok (.goto 7, 3) := by decide +kernel
theorem dL_input_13 : decode cL_input 13 = .ok (.astore 4, 2) := by decide +kernel
theorem dL_input_15 : decode cL_input 15 = .ok (.iconst 1, 1) := by decide +kernel
theorem dL_input_16 : decode cL_input 16 = .ok (.ireturn, 1) := by decide +kernel
theorem dL_input_17 : decode cL_input 17 = .ok (.iconst 0, 1) := by decide +kernel
theorem dL_input_18 : decode cL_input 18 = .ok (.ireturn, 1) := by decide +kernel
theorem dL_copied_0 : decode cL_copied 0 = .ok (.aload_n 2, 1) := by decide +kernel
theorem dL_copied_1 : decode cL_copied 1 = .ok (.iconst 0, 1) := by decide +kernel
theorem dL_copied_2 : decode cL_copied 2 = .ok (.aload_n 0, 1) := by decide +kernel
theorem dL_copied_3 : decode cL_copied 3 = .ok (.iload_n 1, 1) := by decide +kernel
theorem dL_copied_4 : decode cL_copied 4 = .ok (.invokevirtual 56, 3) := by decide +kernel
theorem dL_copied_7 : decode cL_copied 7 = .ok (.i2l, 1) := by decide +kernel
theorem dL_copied_8 : decode cL_copied 8 = .ok (.lastore, 1) := by decide +kernel
theorem dL_copied_9 : decode cL_copied 9 = .ok (.goto 6, 3) := by decide +kernel
theorem dL_copied_12 : decode cL_copied 12 = .ok (.astore_n 3, 1) := by decide +kernel
theorem dL_copied_13 : decode cL_copied 13 = .ok (.iconst 1, 1) := by decide +kernel
theorem dL_copied_14 : decode cL_copied 14 = .ok (.ireturn, 1) := by decide +kernel
theorem dL_copied_15 : decode cL_copied 15 = .ok (.iconst 0, 1) := by decide +kernel
theorem dL_copied_16 : decode cL_copied 16 = .ok (.ireturn, 1) := by decide +kernel
theorem dL_count_0 : decode cL_count 0 = .ok (.aload_n 2, 1) := by decide +kernel
theorem dL_count_1 : decode cL_count 1 = .ok (.iconst 0, 1) := by decide +kernel
theorem dL_count_2 : decode cL_count 2 = .ok (.aload_n 0, 1) := by decide +kernel
theorem dL_count_3 : decode cL_count 3 = .ok (.iload_n 1, 1) := by decide +kernel
theorem dL_count_4 : decode cL_count 4 = .ok (.invokevirtual 59, 3) := by decide +kernel
theorem dL_count_7 : decode cL_count 7 = .ok (.i2l, 1) := by decide +kernel
theorem dL_count_8 : decode cL_count 8 = .ok (.lastore, 1) := by decide +kernel
theorem dL_count_9 : decode cL_count 9 = .ok (.goto 6, 3) := by decide +kernel
theorem dL_count_12 : decode cL_count 12 = .ok (.astore_n 3, 1) := by decide +kernel
theorem dL_count_13 : decode cL_count 13 = .ok (.iconst 1, 1) := by decide +kernel
theorem dL_count_14 : decode cL_count 14 = .ok (.ireturn, 1) := by decide +kernel
theorem dL_count_15 : decode cL_count 15 = .ok (.iconst 0, 1) := by decide +kernel
theorem dL_count_16 : decode cL_count 16 = .ok (.ireturn, 1) := by decide +kernel
theorem dL_law_0 : decode cL_law 0 = .ok (.new 8, 3) := by decide +kernel
theorem dL_law_3 : decode cL_law 3 = .ok (.dup, 1) := by decide +kernel
theorem dL_law_4 : decode cL_law 4 = .ok (.aload_n 0, 1) := by decide +kernel
theorem dL_law_5 : decode cL_law 5 = .ok (.iconst 0, 1) := by decide +kernel
theorem dL_law_6 : decode cL_law 6 = .ok (.invokestatic 62, 3) := by decide +kernel
theorem dL_law_9 : decode cL_law 9 = .ok (.aload_n 0, 1) := by decide +kernel
theorem dL_law_10 : decode cL_law 10 = .ok (.iconst 1, 1) := by decide +kernel
theorem dL_law_11 : decode cL_law 11 = .ok (.invokestatic 62, 3) := by decide +kernel
theorem dL_law_14 : decode cL_law 14 = .ok (.invokespecial 67, 3) := by decide +kernel
theorem dL_law_17 : decode cL_law 17 = .ok (.astore_n 1, 1) := by decide +kernel
theorem dL_law_18 : decode cL_law 18 = .ok (.new 70, 3) := by decide +kernel
theorem dL_law_21 : decode cL_law 21 = .ok (.dup, 1) := by decide +kernel
theorem dL_law_22 : decode cL_law 22 = .ok (.aload_n 0, 1) := by decide +kernel
theorem dL_law_23 : decode cL_law 23 = .ok (.iconst 0, 1) := by decide +kernel
theorem dL_law_24 : decode cL_law 24 = .ok (.invokestatic 62, 3) := by decide +kernel
theorem dL_law_27 : decode cL_law 27 = .ok (.aload_n 0, 1) := by decide +kernel
theorem dL_law_28 : decode cL_law 28 = .ok (.iconst 1, 1) := by decide +kernel
theorem dL_law_29 : decode cL_law 29 = .ok (.invokestatic 62, 3) := by decide +kernel
theorem dL_law_32 : decode cL_law 32 = .ok (.invokespecial 72, 3) := by decide +kernel
theorem dL_law_35 : decode cL_law 35 = .ok (.astore_n 2, 1) := by decide +kernel
theorem dL_law_36 : decode cL_law 36 = .ok (.iconst 1, 1) := by decide +kernel
theorem dL_law_37 : decode cL_law 37 = .ok (.newarray .long, 2) := by decide +kernel
theorem dL_law_39 : decode cL_law 39 = .ok (.astore_n 3, 1) := by decide +kernel
theorem dL_law_40 : decode cL_law 40 = .ok (.iconst 2, 1) := by decide +kernel
theorem dL_law_41 : decode cL_law 41 = .ok (.istore 4, 2) := by decide +kernel
theorem dL_law_43 : decode cL_law 43 = .ok (.iload 4, 2) := by decide +kernel
theorem dL_law_45 : decode cL_law 45 = .ok (.aload_n 0, 1) := by decide +kernel
theorem dL_law_46 : decode cL_law 46 = .ok (.arraylength, 1) := by decide +kernel
theorem dL_law_47 : decode cL_law 47 = .ok (.bipush 6, 2) := by decide +kernel
theorem dL_law_49 : decode cL_law 49 = .ok (.isub, 1) := by decide +kernel
theorem dL_law_50 : decode cL_law 50 = .ok (.if_icmp .gt 706, 3) := by decide +kernel
theorem dL_law_53 : decode cL_law 53 = .ok (.aload_n 0, 1) := by decide +kernel
theorem dL_law_54 : decode cL_law 54 = .ok (.iload 4, 2) := by decide +kernel
theorem dL_law_56 : decode cL_law 56 = .ok (.iaload, 1) := by decide +kernel
theorem dL_law_57 : decode cL_law 57 = .ok (.bipush 15, 2) := by decide +kernel
theorem dL_law_59 : decode cL_law 59 = .ok (.iand, 1) := by decide +kernel
theorem dL_law_60 : decode cL_law 60 = .ok (.tableswitch 690 0 13 #[72, 153, 181, 237, 265, 301, 369, 445, 458, 486, 554, 594, 634, 662], 72) := by decide +kernel
theorem dL_law_132 : decode cL_law 132 = .ok (.aload_n 1, 1) := by decide +kernel
theorem dL_law_133 : decode cL_law 133 = .ok (.aload_n 0, 1) := by decide +kernel
theorem dL_law_134 : decode cL_law 134 = .ok (.iload 4, 2) := by decide +kernel
theorem dL_law_136 : decode cL_law 136 = .ok (.iconst 1, 1) := by decide +kernel
theorem dL_law_137 : decode cL_law 137 = .ok (.iadd, 1) := by decide +kernel
theorem dL_law_138 : decode cL_law 138 = .ok (.iaload, 1) := by decide +kernel
theorem dL_law_139 : decode cL_law 139 = .ok (.aload_n 0, 1) := by decide +kernel
theorem dL_law_140 : decode cL_law 140 = .ok (.iload 4, 2) := by decide +kernel
theorem dL_law_142 : decode cL_law 142 = .ok (.iconst 2, 1) := by decide +kernel
theorem dL_law_143 : decode cL_law 143 = .ok (.iadd, 1) := by decide +kernel
theorem dL_law_144 : decode cL_law 144 = .ok (.iaload, 1) := by decide +kernel
theorem dL_law_145 : decode cL_law 145 = .ok (.i2l, 1) := by decide +kernel
theorem dL_law_146 : decode cL_law 146 = .ok (.bipush 32, 2) := by decide +kernel
theorem dL_law_148 : decode cL_law 148 = .ok (.lshl, 1) := by decide +kernel
theorem dL_law_149 : decode cL_law 149 = .ok (.aload_n 0, 1) := by decide +kernel
theorem dL_law_150 : decode cL_law 150 = .ok (.iload 4, 2) := by decide +kernel
theorem dL_law_152 : decode cL_law 152 = .ok (.iconst 3, 1) := by decide +kernel
theorem dL_law_153 : decode cL_law 153 = .ok (.iadd, 1) := by decide +kernel
theorem dL_law_154 : decode cL_law 154 = .ok (.iaload, 1) := by decide +kernel
theorem dL_law_155 : decode cL_law 155 = .ok (.i2l, 1) := by decide +kernel
theorem dL_law_156 : decode cL_law 156 = .ok (.ldc2_w 73, 3) := by decide +kernel
theorem dL_law_159 : decode cL_law 159 = .ok (.land, 1) := by decide +kernel
theorem dL_law_160 : decode cL_law 160 = .ok (.lor, 1) := by decide +kernel
theorem dL_law_161 : decode cL_law 161 = .ok (.aload_n 0, 1) := by decide +kernel
theorem dL_law_162 : decode cL_law 162 = .ok (.iload 4, 2) := by decide +kernel
theorem dL_law_164 : decode cL_law 164 = .ok (.iconst 4, 1) := by decide +kernel
theorem dL_law_165 : decode cL_law 165 = .ok (.iadd, 1) := by decide +kernel
theorem dL_law_166 : decode cL_law 166 = .ok (.iaload, 1) := by decide +kernel
theorem dL_law_167 : decode cL_law 167 = .ok (.invokestatic 75, 3) := by decide +kernel
theorem dL_law_170 : decode cL_law 170 = .ok (.istore 5, 2) := by decide +kernel
theorem dL_law_172 : decode cL_law 172 = .ok (.aload_n 2, 1) := by decide +kernel
theorem dL_law_173 : decode cL_law 173 = .ok (.aload_n 0, 1) := by decide +kernel
theorem dL_law_174 : decode cL_law 174 = .ok (.iload 4, 2) := by decide +kernel
theorem dL_law_176 : decode cL_law 176 = .ok (.iconst 1, 1) := by decide +kernel
theorem dL_law_177 : decode cL_law 177 = .ok (.iadd, 1) := by decide +kernel
theorem dL_law_178 : decode cL_law 178 = .ok (.iaload, 1) := by decide +kernel
theorem dL_law_179 : decode cL_law 179 = .ok (.aload_n 0, 1) := by decide +kernel
theorem dL_law_180 : decode cL_law 180 = .ok (.iload 4, 2) := by decide +kernel
theorem dL_law_182 : decode cL_law 182 = .ok (.iconst 2, 1) := by decide +kernel
theorem dL_law_183 : decode cL_law 183 = .ok (.iadd, 1) := by decide +kernel
theorem dL_law_184 : decode cL_law 184 = .ok (.iaload, 1) := by decide +kernel
theorem dL_law_185 : decode cL_law 185 = .ok (.i2l, 1) := by decide +kernel
theorem dL_law_186 : decode cL_law 186 = .ok (.bipush 32, 2) := by decide +kernel
theorem dL_law_188 : decode cL_law 188 = .ok (.lshl, 1) := by decide +kernel
theorem dL_law_189 : decode cL_law 189 = .ok (.aload_n 0, 1) := by decide +kernel
theorem dL_law_190 : decode cL_law 190 = .ok (.iload 4, 2) := by decide +kernel
theorem dL_law_192 : decode cL_law 192 = .ok (.iconst 3, 1) := by decide +kernel
theorem dL_law_193 : decode cL_law 193 = .ok (.iadd, 1) := by decide +kernel
theorem dL_law_194 : decode cL_law 194 = .ok (.iaload, 1) := by decide +kernel
theorem dL_law_195 : decode cL_law 195 = .ok (.i2l, 1) := by decide +kernel
theorem dL_law_196 : decode cL_law 196 = .ok (.ldc2_w 73, 3) := by decide +kernel
theorem dL_law_199 : decode cL_law 199 = .ok (.land, 1) := by decide +kernel
theorem dL_law_200 : decode cL_law 200 = .ok (.lor, 1) := by decide +kernel
theorem dL_law_201 : decode cL_law 201 = .ok (.aload_n 0, 1) := by decide +kernel
theorem dL_law_202 : decode cL_law 202 = .ok (.iload 4, 2) := by decide +kernel
theorem dL_law_204 : decode cL_law 204 = .ok (.iconst 4, 1) := by decide +kernel
theorem dL_law_205 : decode cL_law 205 = .ok (.iadd, 1) := by decide +kernel
theorem dL_law_206 : decode cL_law 206 = .ok (.iaload, 1) := by decide +kernel
theorem dL_law_207 : decode cL_law 207 = .ok (.invokevirtual 78, 3) := by decide +kernel
theorem dL_law_210 : decode cL_law 210 = .ok (.goto 540, 3) := by decide +kernel
theorem dL_law_213 : decode cL_law 213 = .ok (.aload_n 1, 1) := by decide +kernel
theorem dL_law_214 : decode cL_law 214 = .ok (.aload_n 0, 1) := by decide +kernel
theorem dL_law_215 : decode cL_law 215 = .ok (.iload 4, 2) := by decide +kernel
theorem dL_law_217 : decode cL_law 217 = .ok (.iconst 1, 1) := by decide +kernel
theorem dL_law_218 : decode cL_law 218 = .ok (.iadd, 1) := by decide +kernel
theorem dL_law_219 : decode cL_law 219 = .ok (.iaload, 1) := by decide +kernel
theorem dL_law_220 : decode cL_law 220 = .ok (.aload_n 3, 1) := by decide +kernel
theorem dL_law_221 : decode cL_law 221 = .ok (.invokestatic 79, 3) := by decide +kernel
theorem dL_law_224 : decode cL_law 224 = .ok (.istore 5, 2) := by decide +kernel
theorem dL_law_226 : decode cL_law 226 = .ok (.aload_n 2, 1) := by decide +kernel
theorem dL_law_227 : decode cL_law 227 = .ok (.aload_n 0, 1) := by decide +kernel
theorem dL_law_228 : decode cL_law 228 = .ok (.iload 4, 2) := by decide +kernel
theorem dL_law_230 : decode cL_law 230 = .ok (.iconst 1, 1) := by decide +kernel
theorem dL_law_231 : decode cL_law 231 = .ok (.iadd, 1) := by decide +kernel
theorem dL_law_232 : decode cL_law 232 = .ok (.iaload, 1) := by decide +kernel
theorem dL_law_233 : decode cL_law 233 = .ok (.invokevirtual 82, 3) := by decide +kernel
theorem dL_law_236 : decode cL_law 236 = .ok (.istore 6, 2) := by decide +kernel
theorem dL_law_238 : decode cL_law 238 = .ok (.goto 512, 3) := by decide +kernel
theorem dL_law_241 : decode cL_law 241 = .ok (.aload_n 1, 1) := by decide +kernel
theorem dL_law_242 : decode cL_law 242 = .ok (.aload_n 0, 1) := by decide +kernel
theorem dL_law_243 : decode cL_law 243 = .ok (.iload 4, 2) := by decide +kernel
theorem dL_law_245 : decode cL_law 245 = .ok (.iconst 1, 1) := by decide +kernel
theorem dL_law_246 : decode cL_law 246 = .ok (.iadd, 1) := by decide +kernel
theorem dL_law_247 : decode cL_law 247 = .ok (.iaload, 1) := by decide +kernel
theorem dL_law_248 : decode cL_law 248 = .ok (.aload_n 0, 1) := by decide +kernel
theorem dL_law_249 : decode cL_law 249 = .ok (.iload 4, 2) := by decide +kernel
theorem dL_law_251 : decode cL_law 251 = .ok (.iconst 2, 1) := by decide +kernel
theorem dL_law_252 : decode cL_law 252 = .ok (.iadd, 1) := by decide +kernel
theorem dL_law_253 : decode cL_law 253 = .ok (.iaload, 1) := by decide +kernel
theorem dL_law_254 : decode cL_law 254 = .ok (.ifCond .eq 7, 3) := by decide +kernel
theorem dL_law_257 : decode cL_law 257 = .ok (.iconst 1, 1) := by decide +kernel
theorem dL_law_258 : decode cL_law 258 = .ok (.goto 4, 3) := by decide +kernel
theorem dL_law_261 : decode cL_law 261 = .ok (.iconst 0, 1) := by decide +kernel
theorem dL_law_262 : decode cL_law 262 = .ok (.aload_n 3, 1) := by decide +kernel
theorem dL_law_263 : decode cL_law 263 = .ok (.invokestatic 83, 3) := by decide +kernel
theorem dL_law_266 : decode cL_law 266 = .ok (.istore 5, 2) := by decide +kernel
theorem dL_law_268 : decode cL_law 268 = .ok (.aload_n 2, 1) := by decide +kernel
theorem dL_law_269 : decode cL_law 269 = .ok (.aload_n 0, 1) := by decide +kernel
theorem dL_law_270 : decode cL_law 270 = .ok (.iload 4, 2) := by decide +kernel
theorem dL_law_272 : decode cL_law 272 = .ok (.iconst 1, 1) := by decide +kernel
theorem dL_law_273 : decode cL_law 273 = .ok (.iadd, 1) := by decide +kernel
theorem dL_law_274 : decode cL_law 274 = .ok (.iaload, 1) := by decide +kernel
theorem dL_law_275 : decode cL_law 275 = .ok (.aload_n 0, 1) := by decide +kernel
theorem dL_law_276 : decode cL_law 276 = .ok (.iload 4, 2) := by decide +kernel
theorem dL_law_278 : decode cL_law 278 = .ok (.iconst 2, 1) := by decide +kernel
theorem dL_law_279 : decode cL_law 279 = .ok (.iadd, 1) := by decide +kernel
theorem dL_law_280 : decode cL_law 280 = .ok (.iaload, 1) := by decide +kernel
theorem dL_law_281 : decode cL_law 281 = .ok (.ifCond .eq 7, 3) := by decide +kernel
theorem dL_law_284 : decode cL_law 284 = .ok (.iconst 1, 1) := by decide +kernel
theorem dL_law_285 : decode cL_law 285 = .ok (.goto 4, 3) := by decide +kernel
theorem dL_law_288 : decode cL_law 288 = .ok (.iconst 0, 1) := by decide +kernel
theorem dL_law_289 : decode cL_law 289 = .ok (.invokevirtual 86, 3) := by decide +kernel
theorem dL_law_292 : decode cL_law 292 = .ok (.istore 6, 2) := by decide +kernel
theorem dL_law_294 : decode cL_law 294 = .ok (.goto 456, 3) := by decide +kernel
theorem dL_law_297 : decode cL_law 297 = .ok (.aload_n 1, 1) := by decide +kernel
theorem dL_law_298 : decode cL_law 298 = .ok (.aload_n 0, 1) := by decide +kernel
theorem dL_law_299 : decode cL_law 299 = .ok (.iload 4, 2) := by decide +kernel
theorem dL_law_301 : decode cL_law 301 = .ok (.iconst 1, 1) := by decide +kernel
theorem dL_law_302 : decode cL_law 302 = .ok (.iadd, 1) := by decide +kernel
theorem dL_law_303 : decode cL_law 303 = .ok (.iaload, 1) := by decide +kernel
theorem dL_law_304 : decode cL_law 304 = .ok (.aload_n 3, 1) := by decide +kernel
theorem dL_law_305 : decode cL_law 305 = .ok (.invokestatic 87, 3) := by decide +kernel
theorem dL_law_308 : decode cL_law 308 = .ok (.istore 5, 2) := by decide +kernel
theorem dL_law_310 : decode cL_law 310 = .ok (.aload_n 2, 1) := by decide +kernel
theorem dL_law_311 : decode cL_law 311 = .ok (.aload_n 0, 1) := by decide +kernel
theorem dL_law_312 : decode cL_law 312 = .ok (.iload 4, 2) := by decide +kernel
theorem dL_law_314 : decode cL_law 314 = .ok (.iconst 1, 1) := by decide +kernel
theorem dL_law_315 : decode cL_law 315 = .ok (.iadd, 1) := by decide +kernel
theorem dL_law_316 : decode cL_law 316 = .ok (.iaload, 1) := by decide +kernel
theorem dL_law_317 : decode cL_law 317 = .ok (.invokevirtual 89, 3) := by decide +kernel
theorem dL_law_320 : decode cL_law 320 = .ok (.istore 6, 2) := by decide +kernel
theorem dL_law_322 : decode cL_law 322 = .ok (.goto 428, 3) := by decide +kernel
theorem dL_law_325 : decode cL_law 325 = .ok (.aload_n 1, 1) := by decide +kernel
theorem dL_law_326 : decode cL_law 326 = .ok (.aload_n 0, 1) := by decide +kernel
theorem dL_law_327 : decode cL_law 327 = .ok (.iload 4, 2) := by decide +kernel
theorem dL_law_329 : decode cL_law 329 = .ok (.iconst 1, 1) := by decide +kernel
theorem dL_law_330 : decode cL_law 330 = .ok (.iadd, 1) := by decide +kernel
theorem dL_law_331 : decode cL_law 331 = .ok (.iaload, 1) := by decide +kernel
theorem dL_law_332 : decode cL_law 332 = .ok (.invokestatic 90, 3) := by decide +kernel
theorem dL_law_335 : decode cL_law 335 = .ok (.istore 5, 2) := by decide +kernel
theorem dL_law_337 : decode cL_law 337 = .ok (.aload_n 2, 1) := by decide +kernel
theorem dL_law_338 : decode cL_law 338 = .ok (.aload_n 0, 1) := by decide +kernel
theorem dL_law_339 : decode cL_law 339 = .ok (.iload 4, 2) := by decide +kernel
theorem dL_law_341 : decode cL_law 341 = .ok (.iconst 1, 1) := by decide +kernel
theorem dL_law_342 : decode cL_law 342 = .ok (.iadd, 1) := by decide +kernel
theorem dL_law_343 : decode cL_law 343 = .ok (.iaload, 1) := by decide +kernel
theorem dL_law_344 : decode cL_law 344 = .ok (.invokevirtual 93, 3) := by decide +kernel
theorem dL_law_347 : decode cL_law 347 = .ok (.aload_n 2, 1) := by decide +kernel
theorem dL_law_348 : decode cL_law 348 = .ok (.invokevirtual 94, 3) := by decide +kernel
theorem dL_law_351 : decode cL_law 351 = .ok (.iload 5, 2) := by decide +kernel
theorem dL_law_353 : decode cL_law 353 = .ok (.if_icmp .eq 5, 3) := by decide +kernel
theorem dL_law_358 : decode cL_law 358 = .ok (.goto 392, 3) := by decide +kernel
theorem dL_law_361 : decode cL_law 361 = .ok (.aload_n 1, 1) := by decide +kernel
theorem dL_law_362 : decode cL_law 362 = .ok (.aload_n 0, 1) := by decide +kernel
theorem dL_law_363 : decode cL_law 363 = .ok (.iload 4, 2) := by decide +kernel
theorem dL_law_365 : decode cL_law 365 = .ok (.iconst 1, 1) := by decide +kernel
theorem dL_law_366 : decode cL_law 366 = .ok (.iadd, 1) := by decide +kernel
theorem dL_law_367 : decode cL_law 367 = .ok (.iaload, 1) := by decide +kernel
theorem dL_law_368 : decode cL_law 368 = .ok (.aload_n 0, 1) := by decide +kernel
theorem dL_law_369 : decode cL_law 369 = .ok (.iload 4, 2) := by decide +kernel
theorem dL_law_371 : decode cL_law 371 = .ok (.iconst 2, 1) := by decide +kernel
theorem dL_law_372 : decode cL_law 372 = .ok (.iadd, 1) := by decide +kernel
theorem dL_law_373 : decode cL_law 373 = .ok (.iaload, 1) := by decide +kernel
theorem dL_law_374 : decode cL_law 374 = .ok (.ifCond .eq 7, 3) := by decide +kernel
theorem dL_law_377 : decode cL_law 377 = .ok (.iconst 1, 1) := by decide +kernel
theorem dL_law_378 : decode cL_law 378 = .ok (.goto 4, 3) := by decide +kernel
theorem dL_law_381 : decode cL_law 381 = .ok (.iconst 0, 1) := by decide +kernel
theorem dL_law_382 : decode cL_law 382 = .ok (.aload_n 0, 1) := by decide +kernel
theorem dL_law_383 : decode cL_law 383 = .ok (.iload 4, 2) := by decide +kernel
theorem dL_law_385 : decode cL_law 385 = .ok (.iconst 3, 1) := by decide +kernel
theorem dL_law_386 : decode cL_law 386 = .ok (.iadd, 1) := by decide +kernel
theorem dL_law_387 : decode cL_law 387 = .ok (.iaload, 1) := by decide +kernel
theorem dL_law_388 : decode cL_law 388 = .ok (.aload_n 3, 1) := by decide +kernel
theorem dL_law_389 : decode cL_law 389 = .ok (.invokestatic 98, 3) := by decide +kernel
theorem dL_law_392 : decode cL_law 392 = .ok (.istore 5, 2) := by decide +kernel
theorem dL_law_394 : decode cL_law 394 = .ok (.aload_n 2, 1) := by decide +kernel
theorem dL_law_395 : decode cL_law 395 = .ok (.aload_n 0, 1) := by decide +kernel
theorem dL_law_396 : decode cL_law 396 = .ok (.iload 4, 2) := by decide +kernel
theorem dL_law_398 : decode cL_law 398 = .ok (.iconst 1, 1) := by decide +kernel
theorem dL_law_399 : decode cL_law 399 = .ok (.iadd, 1) := by decide +kernel
theorem dL_law_400 : decode cL_law 400 = .ok (.iaload, 1) := by decide +kernel
theorem dL_law_401 : decode cL_law 401 = .ok (.aload_n 0, 1) := by decide +kernel
theorem dL_law_402 : decode cL_law 402 = .ok (.iload 4, 2) := by decide +kernel
theorem dL_law_404 : decode cL_law 404 = .ok (.iconst 2, 1) := by decide +kernel
theorem dL_law_405 : decode cL_law 405 = .ok (.iadd, 1) := by decide +kernel
theorem dL_law_406 : decode cL_law 406 = .ok (.iaload, 1) := by decide +kernel
theorem dL_law_407 : decode cL_law 407 = .ok (.ifCond .eq 7, 3) := by decide +kernel
theorem dL_law_410 : decode cL_law 410 = .ok (.iconst 1, 1) := by decide +kernel
theorem dL_law_411 : decode cL_law 411 = .ok (.goto 4, 3) := by decide +kernel
theorem dL_law_414 : decode cL_law 414 = .ok (.iconst 0, 1) := by decide +kernel
theorem dL_law_415 : decode cL_law 415 = .ok (.aload_n 0, 1) := by decide +kernel
theorem dL_law_416 : decode cL_law 416 = .ok (.iload 4, 2) := by decide +kernel
theorem dL_law_418 : decode cL_law 418 = .ok (.iconst 3, 1) := by decide +kernel
theorem dL_law_419 : decode cL_law 419 = .ok (.iadd, 1) := by decide +kernel
theorem dL_law_420 : decode cL_law 420 = .ok (.iaload, 1) := by decide +kernel
theorem dL_law_421 : decode cL_law 421 = .ok (.invokevirtual 101, 3) := by decide +kernel
theorem dL_law_424 : decode cL_law 424 = .ok (.istore 6, 2) := by decide +kernel
theorem dL_law_426 : decode cL_law 426 = .ok (.goto 324, 3) := by decide +kernel
theorem dL_law_429 : decode cL_law 429 = .ok (.aload_n 1, 1) := by decide +kernel
theorem dL_law_430 : decode cL_law 430 = .ok (.aload_n 0, 1) := by decide +kernel
theorem dL_law_431 : decode cL_law 431 = .ok (.iload 4, 2) := by decide +kernel
theorem dL_law_433 : decode cL_law 433 = .ok (.iconst 1, 1) := by decide +kernel
theorem dL_law_434 : decode cL_law 434 = .ok (.iadd, 1) := by decide +kernel
theorem dL_law_435 : decode cL_law 435 = .ok (.iaload, 1) := by decide +kernel
theorem dL_law_436 : decode cL_law 436 = .ok (.aload_n 0, 1) := by decide +kernel
theorem dL_law_437 : decode cL_law 437 = .ok (.iload 4, 2) := by decide +kernel
theorem dL_law_439 : decode cL_law 439 = .ok (.iconst 2, 1) := by decide +kernel
theorem dL_law_440 : decode cL_law 440 = .ok (.iadd, 1) := by decide +kernel
theorem dL_law_441 : decode cL_law 441 = .ok (.iaload, 1) := by decide +kernel
theorem dL_law_442 : decode cL_law 442 = .ok (.aload_n 0, 1) := by decide +kernel
theorem dL_law_443 : decode cL_law 443 = .ok (.iload 4, 2) := by decide +kernel
theorem dL_law_445 : decode cL_law 445 = .ok (.iconst 3, 1) := by decide +kernel
theorem dL_law_446 : decode cL_law 446 = .ok (.iadd, 1) := by decide +kernel
theorem dL_law_447 : decode cL_law 447 = .ok (.iaload, 1) := by decide +kernel
theorem dL_law_448 : decode cL_law 448 = .ok (.aload_n 0, 1) := by decide +kernel
theorem dL_law_449 : decode cL_law 449 = .ok (.iload 4, 2) := by decide +kernel
theorem dL_law_451 : decode cL_law 451 = .ok (.iconst 4, 1) := by decide +kernel
theorem dL_law_452 : decode cL_law 452 = .ok (.iadd, 1) := by decide +kernel
theorem dL_law_453 : decode cL_law 453 = .ok (.iaload, 1) := by decide +kernel
theorem dL_law_454 : decode cL_law 454 = .ok (.aload_n 0, 1) := by decide +kernel
theorem dL_law_455 : decode cL_law 455 = .ok (.iload 4, 2) := by decide +kernel
theorem dL_law_457 : decode cL_law 457 = .ok (.iconst 5, 1) := by decide +kernel
theorem dL_law_458 : decode cL_law 458 = .ok (.iadd, 1) := by decide +kernel
theorem dL_law_459 : decode cL_law 459 = .ok (.iaload, 1) := by decide +kernel
theorem dL_law_460 : decode cL_law 460 = .ok (.aload_n 3, 1) := by decide +kernel
theorem dL_law_461 : decode cL_law 461 = .ok (.invokestatic 102, 3) := by decide +kernel
theorem dL_law_464 : decode cL_law 464 = .ok (.istore 5, 2) := by decide +kernel
theorem dL_law_466 : decode cL_law 466 = .ok (.aload_n 2, 1) := by decide +kernel
theorem dL_law_467 : decode cL_law 467 = .ok (.aload_n 0, 1) := by decide +kernel
theorem dL_law_468 : decode cL_law 468 = .ok (.iload 4, 2) := by decide +kernel
theorem dL_law_470 : decode cL_law 470 = .ok (.iconst 1, 1) := by decide +kernel
theorem dL_law_471 : decode cL_law 471 = .ok (.iadd, 1) := by decide +kernel
theorem dL_law_472 : decode cL_law 472 = .ok (.iaload, 1) := by decide +kernel
theorem dL_law_473 : decode cL_law 473 = .ok (.aload_n 0, 1) := by decide +kernel
theorem dL_law_474 : decode cL_law 474 = .ok (.iload 4, 2) := by decide +kernel
theorem dL_law_476 : decode cL_law 476 = .ok (.iconst 2, 1) := by decide +kernel
theorem dL_law_477 : decode cL_law 477 = .ok (.iadd, 1) := by decide +kernel
theorem dL_law_478 : decode cL_law 478 = .ok (.iaload, 1) := by decide +kernel
theorem dL_law_479 : decode cL_law 479 = .ok (.aload_n 0, 1) := by decide +kernel
theorem dL_law_480 : decode cL_law 480 = .ok (.iload 4, 2) := by decide +kernel
theorem dL_law_482 : decode cL_law 482 = .ok (.iconst 3, 1) := by decide +kernel
theorem dL_law_483 : decode cL_law 483 = .ok (.iadd, 1) := by decide +kernel
theorem dL_law_484 : decode cL_law 484 = .ok (.iaload, 1) := by decide +kernel
theorem dL_law_485 : decode cL_law 485 = .ok (.aload_n 0, 1) := by decide +kernel
theorem dL_law_486 : decode cL_law 486 = .ok (.iload 4, 2) := by decide +kernel
theorem dL_law_488 : decode cL_law 488 = .ok (.iconst 4, 1) := by decide +kernel
theorem dL_law_489 : decode cL_law 489 = .ok (.iadd, 1) := by decide +kernel
theorem dL_law_490 : decode cL_law 490 = .ok (.iaload, 1) := by decide +kernel
theorem dL_law_491 : decode cL_law 491 = .ok (.aload_n 0, 1) := by decide +kernel
theorem dL_law_492 : decode cL_law 492 = .ok (.iload 4, 2) := by decide +kernel
theorem dL_law_494 : decode cL_law 494 = .ok (.iconst 5, 1) := by decide +kernel
theorem dL_law_495 : decode cL_law 495 = .ok (.iadd, 1) := by decide +kernel
theorem dL_law_496 : decode cL_law 496 = .ok (.iaload, 1) := by decide +kernel
theorem dL_law_497 : decode cL_law 497 = .ok (.invokevirtual 105, 3) := by decide +kernel
theorem dL_law_500 : decode cL_law 500 = .ok (.istore 6, 2) := by decide +kernel
theorem dL_law_502 : decode cL_law 502 = .ok (.goto 248, 3) := by decide +kernel
theorem dL_law_505 : decode cL_law 505 = .ok (.aload_n 1, 1) := by decide +kernel
theorem dL_law_506 : decode cL_law 506 = .ok (.invokevirtual 106, 3) := by decide +kernel
theorem dL_law_509 : decode cL_law 509 = .ok (.pop, 1) := by decide +kernel
theorem dL_law_510 : decode cL_law 510 = .ok (.aload_n 2, 1) := by decide +kernel
theorem dL_law_511 : decode cL_law 511 = .ok (.invokevirtual 109, 3) := by decide +kernel
theorem dL_law_514 : decode cL_law 514 = .ok (.pop, 1) := by decide +kernel
theorem dL_law_515 : decode cL_law 515 = .ok (.goto 235, 3) := by decide +kernel
theorem dL_law_518 : decode cL_law 518 = .ok (.aload_n 1, 1) := by decide +kernel
theorem dL_law_519 : decode cL_law 519 = .ok (.aload_n 0, 1) := by decide +kernel
theorem dL_law_520 : decode cL_law 520 = .ok (.iload 4, 2) := by decide +kernel
theorem dL_law_522 : decode cL_law 522 = .ok (.iconst 1, 1) := by decide +kernel
theorem dL_law_523 : decode cL_law 523 = .ok (.iadd, 1) := by decide +kernel
theorem dL_law_524 : decode cL_law 524 = .ok (.iaload, 1) := by decide +kernel
theorem dL_law_525 : decode cL_law 525 = .ok (.aload_n 3, 1) := by decide +kernel
theorem dL_law_526 : decode cL_law 526 = .ok (.invokestatic 110, 3) := by decide +kernel
theorem dL_law_529 : decode cL_law 529 = .ok (.istore 5, 2) := by decide +kernel
theorem dL_law_531 : decode cL_law 531 = .ok (.aload_n 2, 1) := by decide +kernel
theorem dL_law_532 : decode cL_law 532 = .ok (.aload_n 0, 1) := by decide +kernel
theorem dL_law_533 : decode cL_law 533 = .ok (.iload 4, 2) := by decide +kernel
theorem dL_law_535 : decode cL_law 535 = .ok (.iconst 1, 1) := by decide +kernel
theorem dL_law_536 : decode cL_law 536 = .ok (.iadd, 1) := by decide +kernel
theorem dL_law_537 : decode cL_law 537 = .ok (.iaload, 1) := by decide +kernel
theorem dL_law_538 : decode cL_law 538 = .ok (.invokevirtual 112, 3) := by decide +kernel
theorem dL_law_541 : decode cL_law 541 = .ok (.istore 6, 2) := by decide +kernel
theorem dL_law_543 : decode cL_law 543 = .ok (.goto 207, 3) := by decide +kernel
theorem dL_law_546 : decode cL_law 546 = .ok (.aload_n 1, 1) := by decide +kernel
theorem dL_law_547 : decode cL_law 547 = .ok (.aload_n 0, 1) := by decide +kernel
theorem dL_law_548 : decode cL_law 548 = .ok (.iload 4, 2) := by decide +kernel
theorem dL_law_550 : decode cL_law 550 = .ok (.iconst 1, 1) := by decide +kernel
theorem dL_law_551 : decode cL_law 551 = .ok (.iadd, 1) := by decide +kernel
theorem dL_law_552 : decode cL_law 552 = .ok (.iaload, 1) := by decide +kernel
theorem dL_law_553 : decode cL_law 553 = .ok (.aload_n 0, 1) := by decide +kernel
theorem dL_law_554 : decode cL_law 554 = .ok (.iload 4, 2) := by decide +kernel
theorem dL_law_556 : decode cL_law 556 = .ok (.iconst 2, 1) := by decide +kernel
theorem dL_law_557 : decode cL_law 557 = .ok (.iadd, 1) := by decide +kernel
theorem dL_law_558 : decode cL_law 558 = .ok (.iaload, 1) := by decide +kernel
theorem dL_law_559 : decode cL_law 559 = .ok (.aload_n 0, 1) := by decide +kernel
theorem dL_law_560 : decode cL_law 560 = .ok (.iload 4, 2) := by decide +kernel
theorem dL_law_562 : decode cL_law 562 = .ok (.iconst 3, 1) := by decide +kernel
theorem dL_law_563 : decode cL_law 563 = .ok (.iadd, 1) := by decide +kernel
theorem dL_law_564 : decode cL_law 564 = .ok (.iaload, 1) := by decide +kernel
theorem dL_law_565 : decode cL_law 565 = .ok (.ifCond .eq 7, 3) := by decide +kernel
theorem dL_law_568 : decode cL_law 568 = .ok (.iconst 1, 1) := by decide +kernel
theorem dL_law_569 : decode cL_law 569 = .ok (.goto 4, 3) := by decide +kernel
theorem dL_law_572 : decode cL_law 572 = .ok (.iconst 0, 1) := by decide +kernel
theorem dL_law_573 : decode cL_law 573 = .ok (.aload_n 3, 1) := by decide +kernel
theorem dL_law_574 : decode cL_law 574 = .ok (.invokestatic 113, 3) := by decide +kernel
theorem dL_law_577 : decode cL_law 577 = .ok (.istore 5, 2) := by decide +kernel
theorem dL_law_579 : decode cL_law 579 = .ok (.aload_n 2, 1) := by decide +kernel
theorem dL_law_580 : decode cL_law 580 = .ok (.aload_n 0, 1) := by decide +kernel
theorem dL_law_581 : decode cL_law 581 = .ok (.iload 4, 2) := by decide +kernel
theorem dL_law_583 : decode cL_law 583 = .ok (.iconst 1, 1) := by decide +kernel
theorem dL_law_584 : decode cL_law 584 = .ok (.iadd, 1) := by decide +kernel
theorem dL_law_585 : decode cL_law 585 = .ok (.iaload, 1) := by decide +kernel
theorem dL_law_586 : decode cL_law 586 = .ok (.aload_n 0, 1) := by decide +kernel
theorem dL_law_587 : decode cL_law 587 = .ok (.iload 4, 2) := by decide +kernel
theorem dL_law_589 : decode cL_law 589 = .ok (.iconst 2, 1) := by decide +kernel
theorem dL_law_590 : decode cL_law 590 = .ok (.iadd, 1) := by decide +kernel
theorem dL_law_591 : decode cL_law 591 = .ok (.iaload, 1) := by decide +kernel
theorem dL_law_592 : decode cL_law 592 = .ok (.aload_n 0, 1) := by decide +kernel
theorem dL_law_593 : decode cL_law 593 = .ok (.iload 4, 2) := by decide +kernel
theorem dL_law_595 : decode cL_law 595 = .ok (.iconst 3, 1) := by decide +kernel
theorem dL_law_596 : decode cL_law 596 = .ok (.iadd, 1) := by decide +kernel
theorem dL_law_597 : decode cL_law 597 = .ok (.iaload, 1) := by decide +kernel
theorem dL_law_598 : decode cL_law 598 = .ok (.ifCond .eq 7, 3) := by decide +kernel
theorem dL_law_601 : decode cL_law 601 = .ok (.iconst 1, 1) := by decide +kernel
theorem dL_law_602 : decode cL_law 602 = .ok (.goto 4, 3) := by decide +kernel
theorem dL_law_605 : decode cL_law 605 = .ok (.iconst 0, 1) := by decide +kernel
theorem dL_law_606 : decode cL_law 606 = .ok (.invokevirtual 116, 3) := by decide +kernel
theorem dL_law_609 : decode cL_law 609 = .ok (.istore 6, 2) := by decide +kernel
theorem dL_law_611 : decode cL_law 611 = .ok (.goto 139, 3) := by decide +kernel
theorem dL_law_614 : decode cL_law 614 = .ok (.aload_n 1, 1) := by decide +kernel
theorem dL_law_615 : decode cL_law 615 = .ok (.aload_n 0, 1) := by decide +kernel
theorem dL_law_616 : decode cL_law 616 = .ok (.iload 4, 2) := by decide +kernel
theorem dL_law_618 : decode cL_law 618 = .ok (.iconst 1, 1) := by decide +kernel
theorem dL_law_619 : decode cL_law 619 = .ok (.iadd, 1) := by decide +kernel
theorem dL_law_620 : decode cL_law 620 = .ok (.iaload, 1) := by decide +kernel
theorem dL_law_621 : decode cL_law 621 = .ok (.aload_n 0, 1) := by decide +kernel
theorem dL_law_622 : decode cL_law 622 = .ok (.iload 4, 2) := by decide +kernel
theorem dL_law_624 : decode cL_law 624 = .ok (.iconst 2, 1) := by decide +kernel
theorem dL_law_625 : decode cL_law 625 = .ok (.iadd, 1) := by decide +kernel
theorem dL_law_626 : decode cL_law 626 = .ok (.iaload, 1) := by decide +kernel
theorem dL_law_627 : decode cL_law 627 = .ok (.aload_n 3, 1) := by decide +kernel
theorem dL_law_628 : decode cL_law 628 = .ok (.invokestatic 117, 3) := by decide +kernel
theorem dL_law_631 : decode cL_law 631 = .ok (.istore 5, 2) := by decide +kernel
theorem dL_law_633 : decode cL_law 633 = .ok (.aload_n 2, 1) := by decide +kernel
theorem dL_law_634 : decode cL_law 634 = .ok (.aload_n 0, 1) := by decide +kernel
theorem dL_law_635 : decode cL_law 635 = .ok (.iload 4, 2) := by decide +kernel
theorem dL_law_637 : decode cL_law 637 = .ok (.iconst 1, 1) := by decide +kernel
theorem dL_law_638 : decode cL_law 638 = .ok (.iadd, 1) := by decide +kernel
theorem dL_law_639 : decode cL_law 639 = .ok (.iaload, 1) := by decide +kernel
theorem dL_law_640 : decode cL_law 640 = .ok (.aload_n 0, 1) := by decide +kernel
theorem dL_law_641 : decode cL_law 641 = .ok (.iload 4, 2) := by decide +kernel
theorem dL_law_643 : decode cL_law 643 = .ok (.iconst 2, 1) := by decide +kernel
theorem dL_law_644 : decode cL_law 644 = .ok (.iadd, 1) := by decide +kernel
theorem dL_law_645 : decode cL_law 645 = .ok (.iaload, 1) := by decide +kernel
theorem dL_law_646 : decode cL_law 646 = .ok (.invokevirtual 120, 3) := by decide +kernel
theorem dL_law_649 : decode cL_law 649 = .ok (.istore 6, 2) := by decide +kernel
theorem dL_law_651 : decode cL_law 651 = .ok (.goto 99, 3) := by decide +kernel
theorem dL_law_654 : decode cL_law 654 = .ok (.aload_n 1, 1) := by decide +kernel
theorem dL_law_655 : decode cL_law 655 = .ok (.aload_n 0, 1) := by decide +kernel
theorem dL_law_656 : decode cL_law 656 = .ok (.iload 4, 2) := by decide +kernel
theorem dL_law_658 : decode cL_law 658 = .ok (.iconst 1, 1) := by decide +kernel
theorem dL_law_659 : decode cL_law 659 = .ok (.iadd, 1) := by decide +kernel
theorem dL_law_660 : decode cL_law 660 = .ok (.iaload, 1) := by decide +kernel
theorem dL_law_661 : decode cL_law 661 = .ok (.aload_n 0, 1) := by decide +kernel
theorem dL_law_662 : decode cL_law 662 = .ok (.iload 4, 2) := by decide +kernel
theorem dL_law_664 : decode cL_law 664 = .ok (.iconst 2, 1) := by decide +kernel
theorem dL_law_665 : decode cL_law 665 = .ok (.iadd, 1) := by decide +kernel
theorem dL_law_666 : decode cL_law 666 = .ok (.iaload, 1) := by decide +kernel
theorem dL_law_667 : decode cL_law 667 = .ok (.aload_n 3, 1) := by decide +kernel
theorem dL_law_668 : decode cL_law 668 = .ok (.invokestatic 121, 3) := by decide +kernel
theorem dL_law_671 : decode cL_law 671 = .ok (.istore 5, 2) := by decide +kernel
theorem dL_law_673 : decode cL_law 673 = .ok (.aload_n 2, 1) := by decide +kernel
theorem dL_law_674 : decode cL_law 674 = .ok (.aload_n 0, 1) := by decide +kernel
theorem dL_law_675 : decode cL_law 675 = .ok (.iload 4, 2) := by decide +kernel
theorem dL_law_677 : decode cL_law 677 = .ok (.iconst 1, 1) := by decide +kernel
theorem dL_law_678 : decode cL_law 678 = .ok (.iadd, 1) := by decide +kernel
theorem dL_law_679 : decode cL_law 679 = .ok (.iaload, 1) := by decide +kernel
theorem dL_law_680 : decode cL_law 680 = .ok (.aload_n 0, 1) := by decide +kernel
theorem dL_law_681 : decode cL_law 681 = .ok (.iload 4, 2) := by decide +kernel
theorem dL_law_683 : decode cL_law 683 = .ok (.iconst 2, 1) := by decide +kernel
theorem dL_law_684 : decode cL_law 684 = .ok (.iadd, 1) := by decide +kernel
theorem dL_law_685 : decode cL_law 685 = .ok (.iaload, 1) := by decide +kernel
theorem dL_law_686 : decode cL_law 686 = .ok (.invokevirtual 123, 3) := by decide +kernel
theorem dL_law_689 : decode cL_law 689 = .ok (.istore 6, 2) := by decide +kernel
theorem dL_law_691 : decode cL_law 691 = .ok (.goto 59, 3) := by decide +kernel
theorem dL_law_694 : decode cL_law 694 = .ok (.aload_n 1, 1) := by decide +kernel
theorem dL_law_695 : decode cL_law 695 = .ok (.aload_n 0, 1) := by decide +kernel
theorem dL_law_696 : decode cL_law 696 = .ok (.iload 4, 2) := by decide +kernel
theorem dL_law_698 : decode cL_law 698 = .ok (.iconst 1, 1) := by decide +kernel
theorem dL_law_699 : decode cL_law 699 = .ok (.iadd, 1) := by decide +kernel
theorem dL_law_700 : decode cL_law 700 = .ok (.iaload, 1) := by decide +kernel
theorem dL_law_701 : decode cL_law 701 = .ok (.aload_n 3, 1) := by decide +kernel
theorem dL_law_702 : decode cL_law 702 = .ok (.invokestatic 124, 3) := by decide +kernel
theorem dL_law_705 : decode cL_law 705 = .ok (.istore 5, 2) := by decide +kernel
theorem dL_law_707 : decode cL_law 707 = .ok (.aload_n 2, 1) := by decide +kernel
theorem dL_law_708 : decode cL_law 708 = .ok (.aload_n 0, 1) := by decide +kernel
theorem dL_law_709 : decode cL_law 709 = .ok (.iload 4, 2) := by decide +kernel
theorem dL_law_711 : decode cL_law 711 = .ok (.iconst 1, 1) := by decide +kernel
theorem dL_law_712 : decode cL_law 712 = .ok (.iadd, 1) := by decide +kernel
theorem dL_law_713 : decode cL_law 713 = .ok (.iaload, 1) := by decide +kernel
theorem dL_law_714 : decode cL_law 714 = .ok (.invokevirtual 126, 3) := by decide +kernel
theorem dL_law_717 : decode cL_law 717 = .ok (.istore 6, 2) := by decide +kernel
theorem dL_law_719 : decode cL_law 719 = .ok (.goto 31, 3) := by decide +kernel
theorem dL_law_722 : decode cL_law 722 = .ok (.aload_n 1, 1) := by decide +kernel
theorem dL_law_723 : decode cL_law 723 = .ok (.aload_n 0, 1) := by decide +kernel
theorem dL_law_724 : decode cL_law 724 = .ok (.iload 4, 2) := by decide +kernel
theorem dL_law_726 : decode cL_law 726 = .ok (.iconst 1, 1) := by decide +kernel
theorem dL_law_727 : decode cL_law 727 = .ok (.iadd, 1) := by decide +kernel
theorem dL_law_728 : decode cL_law 728 = .ok (.iaload, 1) := by decide +kernel
theorem dL_law_729 : decode cL_law 729 = .ok (.aload_n 3, 1) := by decide +kernel
theorem dL_law_730 : decode cL_law 730 = .ok (.invokestatic 127, 3) := by decide +kernel
theorem dL_law_733 : decode cL_law 733 = .ok (.istore 5, 2) := by decide +kernel
theorem dL_law_735 : decode cL_law 735 = .ok (.aload_n 2, 1) := by decide +kernel
theorem dL_law_736 : decode cL_law 736 = .ok (.aload_n 0, 1) := by decide +kernel
theorem dL_law_737 : decode cL_law 737 = .ok (.iload 4, 2) := by decide +kernel
theorem dL_law_739 : decode cL_law 739 = .ok (.iconst 1, 1) := by decide +kernel
theorem dL_law_740 : decode cL_law 740 = .ok (.iadd, 1) := by decide +kernel
theorem dL_law_741 : decode cL_law 741 = .ok (.iaload, 1) := by decide +kernel
theorem dL_law_742 : decode cL_law 742 = .ok (.invokevirtual 129, 3) := by decide +kernel
theorem dL_law_745 : decode cL_law 745 = .ok (.istore 6, 2) := by decide +kernel
theorem dL_law_747 : decode cL_law 747 = .ok (.goto 3, 3) := by decide +kernel
theorem dL_law_750 : decode cL_law 750 = .ok (.iinc 4 6, 3) := by decide +kernel
theorem dL_law_753 : decode cL_law 753 = .ok (.goto (-710), 3) := by decide +kernel
theorem dL_law_756 : decode cL_law 756 = .ok (.iconst 1, 1) := by decide +kernel
theorem dL_law_757 : decode cL_law 757 = .ok (.ireturn, 1) := by decide +kernel
