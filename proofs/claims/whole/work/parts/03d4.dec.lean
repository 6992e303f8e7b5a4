theorem dX12_init_0 : decode cX12_init 0 = .ok (.aload_n 0, 1) := by decide +kernel
theorem dX12_init_1 : decode cX12_init 1 = .ok (.invokespecial 1, 3) := by decide +kernel
theorem dX12_init_4 : decode cX12_init 4 = .ok (.aload_n 0, 1) := by decide +kernel
theorem dX12_init_5 : decode cX12_init 5 = .ok (.sipush 700, 3) := by decide +kernel
theorem dX12_init_8 : decode cX12_init 8 = .ok (.newarray .int, 2) := by decide +kernel
theorem dX12_init_10 : decode cX12_init 10 = .ok (.putfield 7, 3) := by decide +kernel
theorem dX12_init_13 : decode cX12_init 13 = .ok (.aload_n 0, 1) := by decide +kernel
theorem dX12_init_14 : decode cX12_init 14 = .ok (.bipush 14, 2) := by decide +kernel
theorem dX12_init_16 : decode cX12_init 16 = .ok (.newarray .int, 2) := by decide +kernel
theorem dX12_init_18 : decode cX12_init 18 = .ok (.dup, 1) := by decide +kernel
theorem dX12_init_19 : decode cX12_init 19 = .ok (.iconst 0, 1) := by decide +kernel
theorem dX12_init_20 : decode cX12_init 20 = .ok (.bipush 20, 2) := by decide +kernel
theorem dX12_init_22 : decode cX12_init 22 = .ok (.iastore, 1) := by decide +kernel
theorem dX12_init_23 : decode cX12_init 23 = .ok (.dup, 1) := by decide +kernel
theorem dX12_init_24 : decode cX12_init 24 = .ok (.iconst 1, 1) := by decide +kernel
theorem dX12_init_25 : decode cX12_init 25 = .ok (.iconst 0, 1) := by decide +kernel
theorem dX12_init_26 : decode cX12_init 26 = .ok (.iastore, 1) := by decide +kernel
theorem dX12_init_27 : decode cX12_init 27 = .ok (.dup, 1) := by decide +kernel
theorem dX12_init_28 : decode cX12_init 28 = .ok (.iconst 2, 1) := by decide +kernel
theorem dX12_init_29 : decode cX12_init 29 = .ok (.iconst 0, 1) := by decide +kernel
theorem dX12_init_30 : decode cX12_init 30 = .ok (.iastore, 1) := by decide +kernel
theorem dX12_init_31 : decode cX12_init 31 = .ok (.dup, 1) := by decide +kernel
theorem dX12_init_32 : decode cX12_init 32 = .ok (.iconst 3, 1) := by decide +kernel
theorem dX12_init_33 : decode cX12_init 33 = .ok (.iconst 0, 1) := by decide +kernel
theorem dX12_init_34 : decode cX12_init 34 = .ok (.iastore, 1) := by decide +kernel
theorem dX12_init_35 : decode cX12_init 35 = .ok (.dup, 1) := by decide +kernel
theorem dX12_init_36 : decode cX12_init 36 = .ok (.iconst 4, 1) := by decide +kernel
theorem dX12_init_37 : decode cX12_init 37 = .ok (.iconst 0, 1) := by decide +kernel
theorem dX12_init_38 : decode cX12_init 38 = .ok (.iastore, 1) := by decide +kernel
theorem dX12_init_39 : decode cX12_init 39 = .ok (.dup, 1) := by decide +kernel
theorem dX12_init_40 : decode cX12_init 40 = .ok (.iconst 5, 1) := by decide +kernel
theorem dX12_init_41 : decode cX12_init 41 = .ok (.iconst 0, 1) := by decide +kernel
theorem dX12_init_42 : decode cX12_init 42 = .ok (.iastore, 1) := by decide +kernel
theorem dX12_init_43 : decode cX12_init 43 = .ok (.dup, 1) := by decide +kernel
theorem dX12_init_44 : decode cX12_init 44 = .ok (.bipush 6, 2) := by decide +kernel
theorem dX12_init_46 : decode cX12_init 46 = .ok (.iconst 0, 1) := by decide +kernel
theorem dX12_init_47 : decode cX12_init 47 = .ok (.iastore, 1) := by decide +kernel
theorem dX12_init_48 : decode cX12_init 48 = .ok (.dup, 1) := by decide +kernel
theorem dX12_init_49 : decode cX12_init 49 = .ok (.bipush 7, 2) := by decide +kernel
theorem dX12_init_51 : decode cX12_init 51 = .ok (.bipush 20, 2) := by decide +kernel
theorem dX12_init_53 : decode cX12_init 53 = .ok (.iastore, 1) := by decide +kernel
theorem dX12_init_54 : decode cX12_init 54 = .ok (.dup, 1) := by decide +kernel
theorem dX12_init_55 : decode cX12_init 55 = .ok (.bipush 8, 2) := by decide +kernel
theorem dX12_init_57 : decode cX12_init 57 = .ok (.iconst 0, 1) := by decide +kernel
theorem dX12_init_58 : decode cX12_init 58 = .ok (.iastore, 1) := by decide +kernel
theorem dX12_init_59 : decode cX12_init 59 = .ok (.dup, 1) := by decide +kernel
theorem dX12_init_60 : decode cX12_init 60 = .ok (.bipush 9, 2) := by decide +kernel
theorem dX12_init_62 : decode cX12_init 62 = .ok (.iconst 0, 1) := by decide +kernel
theorem dX12_init_63 : decode cX12_init 63 = .ok (.iastore, 1) := by decide +kernel
theorem dX12_init_64 : decode cX12_init 64 = .ok (.dup, 1) := by decide +kernel
theorem dX12_init_65 : decode cX12_init 65 = .ok (.bipush 10, 2) := by decide +kernel
theorem dX12_init_67 : decode cX12_init 67 = .ok (.iconst 0, 1) := by decide +kernel
theorem dX12_init_68 : decode cX12_init 68 = .ok (.iastore, 1) := by decide +kernel
theorem dX12_init_69 : decode cX12_init 69 = .ok (.dup, 1) := by decide +kernel
theorem dX12_init_70 : decode cX12_init 70 = .ok (.bipush 11, 2) := by decide +kernel
theorem dX12_init_72 : decode cX12_init 72 = .ok (.iconst 0, 1) := by decide +kernel
theorem dX12_init_73 : decode cX12_init 73 = .ok (.iastore, 1) := by decide +kernel
theorem dX12_init_74 : decode cX12_init 74 = .ok (.dup, 1) := by decide +kernel
theorem dX12_init_75 : decode cX12_init 75 = .ok (.bipush 12, 2) := by decide +kernel
theorem dX12_init_77 : decode cX12_init 77 = .ok (.iconst 0, 1) := by decide +kernel
theorem dX12_init_78 : decode cX12_init 78 = .ok (.iastore, 1) := by decide +kernel
theorem dX12_init_79 : decode cX12_init 79 = .ok (.dup, 1) := by decide +kernel
theorem dX12_init_80 : decode cX12_init 80 = .ok (.bipush 13, 2) := by decide +kernel
theorem dX12_init_82 : decode cX12_init 82 = .ok (.iconst 0, 1) := by decide +kernel
theorem dX12_init_83 : decode cX12_init 83 = .ok (.iastore, 1) := by decide +kernel
theorem dX12_init_84 : decode cX12_init 84 = .ok (.putfield 13, 3) := by decide +kernel
theorem dX12_init_87 : decode cX12_init 87 = .ok (.aload_n 0, 1) := by decide +kernel
theorem dX12_init_88 : decode cX12_init 88 = .ok (.bipush 8, 2) := by decide +kernel
theorem dX12_init_90 : decode cX12_init 90 = .ok (.newarray .int, 2) := by decide +kernel
theorem dX12_init_92 : decode cX12_init 92 = .ok (.putfield 16, 3) := by decide +kernel
theorem dX12_init_95 : decode cX12_init 95 = .ok (.aload_n 0, 1) := by decide +kernel
theorem dX12_init_96 : decode cX12_init 96 = .ok (.bipush 8, 2) := by decide +kernel
theorem dX12_init_98 : decode cX12_init 98 = .ok (.newarray .int, 2) := by decide +kernel
theorem dX12_init_100 : decode cX12_init 100 = .ok (.putfield 19, 3) := by decide +kernel
theorem dX12_init_103 : decode cX12_init 103 = .ok (.aload_n 0, 1) := by decide +kernel
theorem dX12_init_104 : decode cX12_init 104 = .ok (.bipush 8, 2) := by decide +kernel
theorem dX12_init_106 : decode cX12_init 106 = .ok (.newarray .int, 2) := by decide +kernel
theorem dX12_init_108 : decode cX12_init 108 = .ok (.putfield 22, 3) := by decide +kernel
theorem dX12_init_111 : decode cX12_init 111 = .ok (.aload_n 0, 1) := by decide +kernel
theorem dX12_init_112 : decode cX12_init 112 = .ok (.bipush 32, 2) := by decide +kernel
theorem dX12_init_114 : decode cX12_init 114 = .ok (.newarray .int, 2) := by decide +kernel
theorem dX12_init_116 : decode cX12_init 116 = .ok (.putfield 25, 3) := by decide +kernel
theorem dX12_init_119 : decode cX12_init 119 = .ok (.aload_n 0, 1) := by decide +kernel
theorem dX12_init_120 : decode cX12_init 120 = .ok (.bipush 12, 2) := by decide +kernel
theorem dX12_init_122 : decode cX12_init 122 = .ok (.newarray .int, 2) := by decide +kernel
theorem dX12_init_124 : decode cX12_init 124 = .ok (.putfield 28, 3) := by decide +kernel
theorem dX12_init_127 : decode cX12_init 127 = .ok (.aload_n 0, 1) := by decide +kernel
theorem dX12_init_128 : decode cX12_init 128 = .ok (.bipush 12, 2) := by decide +kernel
theorem dX12_init_130 : decode cX12_init 130 = .ok (.newarray .int, 2) := by decide +kernel
theorem dX12_init_132 : decode cX12_init 132 = .ok (.putfield 31, 3) := by decide +kernel
theorem dX12_init_135 : decode cX12_init 135 = .ok (.aload_n 0, 1) := by decide +kernel
theorem dX12_init_136 : decode cX12_init 136 = .ok (.bipush 12, 2) := by decide +kernel
theorem dX12_init_138 : decode cX12_init 138 = .ok (.newarray .int, 2) := by decide +kernel
theorem dX12_init_140 : decode cX12_init 140 = .ok (.putfield 34, 3) := by decide +kernel
theorem dX12_init_143 : decode cX12_init 143 = .ok (.aload_n 0, 1) := by decide +kernel
theorem dX12_init_144 : decode cX12_init 144 = .ok (.bipush 24, 2) := by decide +kernel
theorem dX12_init_146 : decode cX12_init 146 = .ok (.newarray .int, 2) := by decide +kernel
theorem dX12_init_148 : decode cX12_init 148 = .ok (.putfield 37, 3) := by decide +kernel
theorem dX12_init_151 : decode cX12_init 151 = .ok (.aload_n 0, 1) := by decide +kernel
theorem dX12_init_152 : decode cX12_init 152 = .ok (.bipush 24, 2) := by decide +kernel
theorem dX12_init_154 : decode cX12_init 154 = .ok (.newarray .int, 2) := by decide +kernel
theorem dX12_init_156 : decode cX12_init 156 = .ok (.putfield 40, 3) := by decide +kernel
theorem dX12_init_159 : decode cX12_init 159 = .ok (.aload_n 0, 1) := by decide +kernel
theorem dX12_init_160 : decode cX12_init 160 = .ok (.bipush 24, 2) := by decide +kernel
theorem dX12_init_162 : decode cX12_init 162 = .ok (.newarray .int, 2) := by decide +kernel
theorem dX12_init_164 : decode cX12_init 164 = .ok (.putfield 43, 3) := by decide +kernel
theorem dX12_init_167 : decode cX12_init 167 = .ok (.aload_n 0, 1) := by decide +kernel
theorem dX12_init_168 : decode cX12_init 168 = .ok (.bipush 24, 2) := by decide +kernel
theorem dX12_init_170 : decode cX12_init 170 = .ok (.newarray .int, 2) := by decide +kernel
theorem dX12_init_172 : decode cX12_init 172 = .ok (.putfield 46, 3) := by decide +kernel
theorem dX12_init_175 : decode cX12_init 175 = .ok (.aload_n 0, 1) := by decide +kernel
theorem dX12_init_176 : decode cX12_init 176 = .ok (.bipush 6, 2) := by decide +kernel
theorem dX12_init_178 : decode cX12_init 178 = .ok (.newarray .int, 2) := by decide +kernel
theorem dX12_init_180 : decode cX12_init 180 = .ok (.putfield 49, 3) := by decide +kernel
theorem dX12_init_183 : decode cX12_init 183 = .ok (.aload_n 0, 1) := by decide +kernel
theorem dX12_init_184 : decode cX12_init 184 = .ok (.bipush 6, 2) := by decide +kernel
theorem dX12_init_186 : decode cX12_init 186 = .ok (.newarray .int, 2) := by decide +kernel
theorem dX12_init_188 : decode cX12_init 188 = .ok (.putfield 52, 3) := by decide +kernel
theorem dX12_init_191 : decode cX12_init 191 = .ok (.aload_n 0, 1) := by decide +kernel
theorem dX12_init_192 : decode cX12_init 192 = .ok (.sipush 128, 3) := by decide +kernel
theorem dX12_init_195 : decode cX12_init 195 = .ok (.newarray .int, 2) := by decide +kernel
theorem dX12_init_197 : decode cX12_init 197 = .ok (.putfield 55, 3) := by decide +kernel
theorem dX12_init_200 : decode cX12_init 200 = .ok (.aload_n 0, 1) := by decide +kernel
theorem dX12_init_201 : decode cX12_init 201 = .ok (.sipush 128, 3) := by decide +kernel
theorem dX12_init_204 : decode cX12_init 204 = .ok (.newarray .int, 2) := by decide +kernel
theorem dX12_init_206 : decode cX12_init 206 = .ok (.putfield 58, 3) := by decide +kernel
theorem dX12_init_209 : decode cX12_init 209 = .ok (.aload_n 0, 1) := by decide +kernel
theorem dX12_init_210 : decode cX12_init 210 = .ok (.iconst (-1), 1) := by decide +kernel
theorem dX12_init_211 : decode cX12_init 211 = .ok (.putfield 61, 3) := by decide +kernel
theorem dX12_init_214 : decode cX12_init 214 = .ok (.aload_n 0, 1) := by decide +kernel
theorem dX12_init_215 : decode cX12_init 215 = .ok (.bipush 7, 2) := by decide +kernel
theorem dX12_init_217 : decode cX12_init 217 = .ok (.newarray .long, 2) := by decide +kernel
theorem dX12_init_219 : decode cX12_init 219 = .ok (.putfield 65, 3) := by decide +kernel
theorem dX12_init_222 : decode cX12_init 222 = .ok (.aload_n 0, 1) := by decide +kernel
theorem dX12_init_223 : decode cX12_init 223 = .ok (.bipush 64, 2) := by decide +kernel
theorem dX12_init_225 : decode cX12_init 225 = .ok (.newarray .long, 2) := by decide +kernel
theorem dX12_init_227 : decode cX12_init 227 = .ok (.putfield 69, 3) := by decide +kernel
theorem dX12_init_230 : decode cX12_init 230 = .ok (.aload_n 0, 1) := by decide +kernel
theorem dX12_init_231 : decode cX12_init 231 = .ok (.bipush 23, 2) := by decide +kernel
theorem dX12_init_233 : decode cX12_init 233 = .ok (.newarray .int, 2) := by decide +kernel
theorem dX12_init_235 : decode cX12_init 235 = .ok (.putfield 72, 3) := by decide +kernel
theorem dX12_init_238 : decode cX12_init 238 = .ok (.aload_n 0, 1) := by decide +kernel
theorem dX12_init_239 : decode cX12_init 239 = .ok (.bipush 23, 2) := by decide +kernel
theorem dX12_init_241 : decode cX12_init 241 = .ok (.newarray .int, 2) := by decide +kernel
theorem dX12_init_243 : decode cX12_init 243 = .ok (.putfield 75, 3) := by decide +kernel
theorem dX12_init_246 : decode cX12_init 246 = .ok (.aload_n 0, 1) := by decide +kernel
theorem dX12_init_247 : decode cX12_init 247 = .ok (.bipush 23, 2) := by decide +kernel
theorem dX12_init_249 : decode cX12_init 249 = .ok (.newarray .int, 2) := by decide +kernel
theorem dX12_init_251 : decode cX12_init 251 = .ok (.putfield 78, 3) := by decide +kernel
theorem dX12_init_254 : decode cX12_init 254 = .ok (.aload_n 0, 1) := by decide +kernel
theorem dX12_init_255 : decode cX12_init 255 = .ok (.sipush 368, 3) := by decide +kernel
theorem dX12_init_258 : decode cX12_init 258 = .ok (.newarray .int, 2) := by decide +kernel
theorem dX12_init_260 : decode cX12_init 260 = .ok (.putfield 81, 3) := by decide +kernel
theorem dX12_init_263 : decode cX12_init 263 = .ok (.aload_n 0, 1) := by decide +kernel
theorem dX12_init_264 : decode cX12_init 264 = .ok (.sipush 368, 3) := by decide +kernel
theorem dX12_init_267 : decode cX12_init 267 = .ok (.newarray .int, 2) := by decide +kernel
theorem dX12_init_269 : decode cX12_init 269 = .ok (.putfield 84, 3) := by decide +kernel
theorem dX12_init_272 : decode cX12_init 272 = .ok (.aload_n 0, 1) := by decide +kernel
theorem dX12_init_273 : decode cX12_init 273 = .ok (.sipush 138, 3) := by decide +kernel
theorem dX12_init_276 : decode cX12_init 276 = .ok (.newarray .int, 2) := by decide +kernel
theorem dX12_init_278 : decode cX12_init 278 = .ok (.putfield 87, 3) := by decide +kernel
theorem dX12_init_281 : decode cX12_init 281 = .ok (.aload_n 0, 1) := by decide +kernel
theorem dX12_init_282 : decode cX12_init 282 = .ok (.sipush 138, 3) := by decide +kernel
theorem dX12_init_285 : decode cX12_init 285 = .ok (.newarray .int, 2) := by decide +kernel
theorem dX12_init_287 : decode cX12_init 287 = .ok (.putfield 90, 3) := by decide +kernel
theorem dX12_init_290 : decode cX12_init 290 = .ok (.aload_n 0, 1) := by decide +kernel
theorem dX12_init_291 : decode cX12_init 291 = .ok (.iconst (-1), 1) := by decide +kernel
theorem dX12_init_292 : decode cX12_init 292 = .ok (.putfield 93, 3) := by decide +kernel
theorem dX12_init_295 : decode cX12_init 295 = .ok (.aload_n 0, 1) := by decide +kernel
theorem dX12_init_296 : decode cX12_init 296 = .ok (.iconst 4, 1) := by decide +kernel
theorem dX12_init_297 : decode cX12_init 297 = .ok (.newarray .int, 2) := by decide +kernel
theorem dX12_init_299 : decode cX12_init 299 = .ok (.putfield 96, 3) := by decide +kernel
theorem dX12_init_302 : decode cX12_init 302 = .ok (.aload_n 0, 1) := by decide +kernel
theorem dX12_init_303 : decode cX12_init 303 = .ok (.iconst 4, 1) := by decide +kernel
theorem dX12_init_304 : decode cX12_init 304 = .ok (.newarray .int, 2) := by decide +kernel
theorem dX12_init_306 : decode cX12_init 306 = .ok (.putfield 99, 3) := by decide +kernel
theorem dX12_init_309 : decode cX12_init 309 = .ok (.aload_n 0, 1) := by decide +kernel
theorem dX12_init_310 : decode cX12_init 310 = .ok (.iconst 4, 1) := by decide +kernel
theorem dX12_init_311 : decode cX12_init 311 = .ok (.newarray .int, 2) := by decide +kernel
theorem dX12_init_313 : decode cX12_init 313 = .ok (.putfield 102, 3) := by decide +kernel
theorem dX12_init_316 : decode cX12_init 316 = .ok (.aload_n 0, 1) := by decide +kernel
theorem dX12_init_317 : decode cX12_init 317 = .ok (.iconst (-1), 1) := by decide +kernel
theorem dX12_init_318 : decode cX12_init 318 = .ok (.putfield 105, 3) := by decide +kernel
theorem dX12_init_321 : decode cX12_init 321 = .ok (.aload_n 0, 1) := by decide +kernel
theorem dX12_init_322 : decode cX12_init 322 = .ok (.bipush 24, 2) := by decide +kernel
theorem dX12_init_324 : decode cX12_init 324 = .ok (.newarray .int, 2) := by decide +kernel
theorem dX12_init_326 : decode cX12_init 326 = .ok (.putfield 108, 3) := by decide +kernel
theorem dX12_init_329 : decode cX12_init 329 = .ok (.aload_n 0, 1) := by decide +kernel
theorem dX12_init_330 : decode cX12_init 330 = .ok (.bipush 24, 2) := by decide +kernel
theorem dX12_init_332 : decode cX12_init 332 = .ok (.newarray .int, 2) := by decide +kernel
theorem dX12_init_334 : decode cX12_init 334 = .ok (.putfield 111, 3) := by decide +kernel
theorem dX12_init_337 : decode cX12_init 337 = .ok (.aload_n 0, 1) := by decide +kernel
theorem dX12_init_338 : decode cX12_init 338 = .ok (.bipush 24, 2) := by decide +kernel
theorem dX12_init_340 : decode cX12_init 340 = .ok (.newarray .int, 2) := by decide +kernel
theorem dX12_init_342 : decode cX12_init 342 = .ok (.putfield 114, 3) := by decide +kernel
theorem dX12_init_345 : decode cX12_init 345 = .ok (.aload_n 0, 1) := by decide +kernel
theorem dX12_init_346 : decode cX12_init 346 = .ok (.bipush 24, 2) := by decide +kernel
theorem dX12_init_348 : decode cX12_init 348 = .ok (.newarray .int, 2) := by decide +kernel
theorem dX12_init_350 : decode cX12_init 350 = .ok (.putfield 117, 3) := by decide +kernel
theorem dX12_init_353 : decode cX12_init 353 = .ok (.aload_n 0, 1) := by decide +kernel
theorem dX12_init_354 : decode cX12_init 354 = .ok (.bipush 24, 2) := by decide +kernel
theorem dX12_init_356 : decode cX12_init 356 = .ok (.newarray .boolean, 2) := by decide +kernel
theorem dX12_init_358 : decode cX12_init 358 = .ok (.putfield 120, 3) := by decide +kernel
theorem dX12_init_361 : decode cX12_init 361 = .ok (.aload_n 0, 1) := by decide +kernel
theorem dX12_init_362 : decode cX12_init 362 = .ok (.bipush 24, 2) := by decide +kernel
theorem dX12_init_364 : decode cX12_init 364 = .ok (.newarray .int, 2) := by decide +kernel
theorem dX12_init_366 : decode cX12_init 366 = .ok (.putfield 124, 3) := by decide +kernel
theorem dX12_init_369 : decode cX12_init 369 = .ok (.aload_n 0, 1) := by decide +kernel
theorem dX12_init_370 : decode cX12_init 370 = .ok (.bipush 24, 2) := by decide +kernel
theorem dX12_init_372 : decode cX12_init 372 = .ok (.newarray .boolean, 2) := by decide +kernel
theorem dX12_init_374 : decode cX12_init 374 = .ok (.putfield 127, 3) := by decide +kernel
theorem dX12_init_377 : decode cX12_init 377 = .ok (.aload_n 0, 1) := by decide +kernel
theorem dX12_init_378 : decode cX12_init 378 = .ok (.bipush 120, 2) := by decide +kernel
theorem dX12_init_380 : decode cX12_init 380 = .ok (.newarray .int, 2) := by decide +kernel
theorem dX12_init_382 : decode cX12_init 382 = .ok (.putfield 130, 3) := by decide +kernel
theorem dX12_init_385 : decode cX12_init 385 = .ok (.aload_n 0, 1) := by decide +kernel
theorem dX12_init_386 : decode cX12_init 386 = .ok (.invokevirtual 133, 3) := by decide +kernel
theorem dX12_init_389 : decode cX12_init 389 = .ok (.return_, 1) := by decide +kernel
theorem dX12_thrown_0 : decode cX12_thrown 0 = .ok (.aload_n 0, 1) := by decide +kernel
theorem dX12_thrown_1 : decode cX12_thrown 1 = .ok (.getfield 136, 3) := by decide +kernel
theorem dX12_thrown_4 : decode cX12_thrown 4 = .ok (.ireturn, 1) := by decide +kernel
theorem dX12_feed_0 : decode cX12_feed 0 = .ok (.aload_n 0, 1) := by decide +kernel
theorem dX12_feed_1 : decode cX12_feed 1 = .ok (.iconst 0, 1) := by decide +kernel
theorem dX12_feed_2 : decode cX12_feed 2 = .ok (.putfield 136, 3) := by decide +kernel
theorem dX12_feed_5 : decode cX12_feed 5 = .ok (.aload_n 0, 1) := by decide +kernel
theorem dX12_feed_6 : decode cX12_feed 6 = .ok (.getfield 139, 3) := by decide +kernel
theorem dX12_feed_9 : decode cX12_feed 9 = .ok (.sipush 680, 3) := by decide +kernel
theorem dX12_feed_12 : decode cX12_feed 12 = .ok (.if_icmp .le 5, 3) := by decide +kernel
theorem dX12_feed_15 : decode cX12_feed 15 = .ok (.iconst (-1), 1) := by decide +kernel
theorem dX12_feed_16 : decode cX12_feed 16 = .ok (.ireturn, 1) := by decide +kernel
theorem dX12_feed_17 : decode cX12_feed 17 = .ok (.iconst 0, 1) := by decide +kernel
theorem dX12_feed_18 : decode cX12_feed 18 = .ok (.istore 6, 2) := by decide +kernel
theorem dX12_feed_20 : decode cX12_feed 20 = .ok (.iload 6, 2) := by decide +kernel
theorem dX12_feed_22 : decode cX12_feed 22 = .ok (.bipush 20, 2) := by decide +kernel
theorem dX12_feed_24 : decode cX12_feed 24 = .ok (.if_icmp .ge 86, 3) := by decide +kernel
theorem dX12_feed_27 : decode cX12_feed 27 = .ok (.iload 6, 2) := by decide +kernel
theorem dX12_feed_29 : decode cX12_feed 29 = .ok (.iconst 4, 1) := by decide +kernel
theorem dX12_feed_30 : decode cX12_feed 30 = .ok (.if_icmp .ge 7, 3) := by decide +kernel
theorem dX12_feed_33 : decode cX12_feed 33 = .ok (.iload_n 1, 1) := by decide +kernel
theorem dX12_feed_34 : decode cX12_feed 34 = .ok (.goto 39, 3) := by decide +kernel
theorem dX12_feed_37 : decode cX12_feed 37 = .ok (.iload 6, 2) := by decide +kernel
theorem dX12_feed_39 : decode cX12_feed 39 = .ok (.bipush 8, 2) := by decide +kernel
theorem dX12_feed_41 : decode cX12_feed 41 = .ok (.if_icmp .ge 7, 3) := by decide +kernel
theorem dX12_feed_44 : decode cX12_feed 44 = .ok (.iload_n 2, 1) := by decide +kernel
theorem dX12_feed_45 : decode cX12_feed 45 = .ok (.goto 28, 3) := by decide +kernel
theorem dX12_feed_48 : decode cX12_feed 48 = .ok (.iload 6, 2) := by decide +kernel
theorem dX12_feed_50 : decode cX12_feed 50 = .ok (.bipush 12, 2) := by decide +kernel
theorem dX12_feed_52 : decode cX12_feed 52 = .ok (.if_icmp .ge 7, 3) := by decide +kernel
theorem dX12_feed_55 : decode cX12_feed 55 = .ok (.iload_n 3, 1) := by decide +kernel
theorem dX12_feed_56 : decode cX12_feed 56 = .ok (.goto 17, 3) := by decide +kernel
theorem dX12_feed_59 : decode cX12_feed 59 = .ok (.iload 6, 2) := by decide +kernel
theorem dX12_feed_61 : decode cX12_feed 61 = .ok (.bipush 16, 2) := by decide +kernel
theorem dX12_feed_63 : decode cX12_feed 63 = .ok (.if_icmp .ge 8, 3) := by decide +kernel
theorem dX12_feed_66 : decode cX12_feed 66 = .ok (.iload 4, 2) := by decide +kernel
theorem dX12_feed_68 : decode cX12_feed 68 = .ok (.goto 5, 3) := by decide +kernel
theorem dX12_feed_71 : decode cX12_feed 71 = .ok (.iload 5, 2) := by decide +kernel
theorem dX12_feed_73 : decode cX12_feed 73 = .ok (.istore 7, 2) := by decide +kernel
theorem dX12_feed_75 : decode cX12_feed 75 = .ok (.aload_n 0, 1) := by decide +kernel
theorem dX12_feed_76 : decode cX12_feed 76 = .ok (.getfield 7, 3) := by decide +kernel
theorem dX12_feed_79 : decode cX12_feed 79 = .ok (.aload_n 0, 1) := by decide +kernel
theorem dX12_feed_80 : decode cX12_feed 80 = .ok (.getfield 139, 3) := by decide +kernel
theorem dX12_feed_83 : decode cX12_feed 83 = .ok (.iload 6, 2) := by decide +kernel
theorem dX12_feed_85 : decode cX12_feed 85 = .ok (.iadd, 1) := by decide +kernel
theorem dX12_feed_86 : decode cX12_feed 86 = .ok (.iload 7, 2) := by decide +kernel
theorem dX12_feed_88 : decode cX12_feed 88 = .ok (.bipush 24, 2) := by decide +kernel
theorem dX12_feed_90 : decode cX12_feed 90 = .ok (.bipush 8, 2) := by decide +kernel
theorem dX12_feed_92 : decode cX12_feed 92 = .ok (.iload 6, 2) := by decide +kernel
theorem dX12_feed_94 : decode cX12_feed 94 = .ok (.iconst 4, 1) := by decide +kernel
theorem dX12_feed_95 : decode cX12_feed 95 = .ok (.irem, 1) := by decide +kernel
theorem dX12_feed_96 : decode cX12_feed 96 = .ok (.imul, 1) := by decide +kernel
theorem dX12_feed_97 : decode cX12_feed 97 = .ok (.isub, 1) := by decide +kernel
theorem dX12_feed_98 : decode cX12_feed 98 = .ok (.ishr, 1) := by decide +kernel
theorem dX12_feed_99 : decode cX12_feed 99 = .ok (.sipush 255, 3) := by decide +kernel
theorem dX12_feed_102 : decode cX12_feed 102 = .ok (.iand, 1) := by decide +kernel
theorem dX12_feed_103 : decode cX12_feed 103 = .ok (.iastore, 1) := by decide +kernel
theorem dX12_feed_104 : decode cX12_feed 104 = .ok (.iinc 6 1, 3) := by decide +kernel
theorem dX12_feed_107 : decode cX12_feed 107 = .ok (.goto (-87), 3) := by decide +kernel
theorem dX12_feed_110 : decode cX12_feed 110 = .ok (.aload_n 0, 1) := by decide +kernel
theorem dX12_feed_111 : decode cX12_feed 111 = .ok (.dup, 1) := by decide +kernel
theorem dX12_feed_112 : decode cX12_feed 112 = .ok (.getfield 139, 3) := by decide +kernel
theorem dX12_feed_115 : decode cX12_feed 115 = .ok (.bipush 20, 2) := by decide +kernel
theorem dX12_feed_117 : decode cX12_feed 117 = .ok (.iadd, 1) := by decide +kernel
theorem dX12_feed_118 : decode cX12_feed 118 = .ok (.putfield 139, 3) := by decide +kernel
theorem dX12_feed_121 : decode cX12_feed 121 = .ok (.aload_n 0, 1) := by decide +kernel
theorem dX12_feed_122 : decode cX12_feed 122 = .ok (.getfield 139, 3) := by decide +kernel
theorem dX12_feed_125 : decode cX12_feed 125 = .ok (.ireturn, 1) := by decide +kernel
theorem dX12_here_0 : decode cX12_here 0 = .ok (.aload_n 0, 1) := by decide +kernel
theorem dX12_here_1 : decode cX12_here 1 = .ok (.getfield 142, 3) := by decide +kernel
theorem dX12_here_4 : decode cX12_here 4 = .ok (.aload_n 0, 1) := by decide +kernel
theorem dX12_here_5 : decode cX12_here 5 = .ok (.getfield 145, 3) := by decide +kernel
theorem dX12_here_8 : decode cX12_here 8 = .ok (.if_icmp .ge 15, 3) := by decide +kernel
theorem dX12_here_11 : decode cX12_here 11 = .ok (.aload_n 0, 1) := by decide +kernel
theorem dX12_here_12 : decode cX12_here 12 = .ok (.getfield 7, 3) := by decide +kernel
theorem dX12_here_15 : decode cX12_here 15 = .ok (.aload_n 0, 1) := by decide +kernel
theorem dX12_here_16 : decode cX12_here 16 = .ok (.getfield 142, 3) := by decide +kernel
theorem dX12_here_19 : decode cX12_here 19 = .ok (.iaload, 1) := by decide +kernel
theorem dX12_here_20 : decode cX12_here 20 = .ok (.goto 4, 3) := by decide +kernel
theorem dX12_here_23 : decode cX12_here 23 = .ok (.iconst (-1), 1) := by decide +kernel
theorem dX12_here_24 : decode cX12_here 24 = .ok (.ireturn, 1) := by decide +kernel
theorem dX12_isSmall_0 : decode cX12_isSmall 0 = .ok (.iload_n 0, 1) := by decide +kernel
theorem dX12_isSmall_1 : decode cX12_isSmall 1 = .ok (.bipush 97, 2) := by decide +kernel
theorem dX12_isSmall_3 : decode cX12_isSmall 3 = .ok (.if_icmp .lt 13, 3) := by decide +kernel
theorem dX12_isSmall_6 : decode cX12_isSmall 6 = .ok (.iload_n 0, 1) := by decide +kernel
theorem dX12_isSmall_7 : decode cX12_isSmall 7 = .ok (.bipush 122, 2) := by decide +kernel
theorem dX12_isSmall_9 : decode cX12_isSmall 9 = .ok (.if_icmp .gt 7, 3) := by decide +kernel
theorem dX12_isSmall_12 : decode cX12_isSmall 12 = .ok (.iconst 1, 1) := by decide +kernel
theorem dX12_isSmall_13 : decode cX12_isSmall 13 = .ok (.goto 4, 3) := by decide +kernel
theorem dX12_isSmall_16 : decode cX12_isSmall 16 = .ok (.iconst 0, 1) := by decide +kernel
theorem dX12_isSmall_17 : decode cX12_isSmall 17 = .ok (.ireturn, 1) := by decide +kernel
theorem dX12_isDigit_0 : decode cX12_isDigit 0 = .ok (.iload_n 0, 1) := by decide +kernel
theorem dX12_isDigit_1 : decode cX12_isDigit 1 = .ok (.bipush 48, 2) := by decide +kernel
theorem dX12_isDigit_3 : decode cX12_isDigit 3 = .ok (.if_icmp .lt 13, 3) := by decide +kernel
theorem dX12_isDigit_6 : decode cX12_isDigit 6 = .ok (.iload_n 0, 1) := by decide +kernel
theorem dX12_isDigit_7 : decode cX12_isDigit 7 = .ok (.bipush 57, 2) := by decide +kernel
theorem dX12_isDigit_9 : decode cX12_isDigit 9 = .ok (.if_icmp .gt 7, 3) := by decide +kernel
theorem dX12_isDigit_12 : decode cX12_isDigit 12 = .ok (.iconst 1, 1) := by decide +kernel
theorem dX12_isDigit_13 : decode cX12_isDigit 13 = .ok (.goto 4, 3) := by decide +kernel
theorem dX12_isDigit_16 : decode cX12_isDigit 16 = .ok (.iconst 0, 1) := by decide +kernel
theorem dX12_isDigit_17 : decode cX12_isDigit 17 = .ok (.ireturn, 1) := by decide +kernel
theorem dX12_token_0 : decode cX12_token 0 = .ok (.aload_n 0, 1) := by decide +kernel
theorem dX12_token_1 : decode cX12_token 1 = .ok (.invokevirtual 148, 3) := by decide +kernel
theorem dX12_token_4 : decode cX12_token 4 = .ok (.bipush 10, 2) := by decide +kernel
theorem dX12_token_6 : decode cX12_token 6 = .ok (.if_icmp .eq 12, 3) := by decide +kernel
theorem dX12_token_9 : decode cX12_token 9 = .ok (.aload_n 0, 1) := by decide +kernel
theorem dX12_token_10 : decode cX12_token 10 = .ok (.invokevirtual 148, 3) := by decide +kernel
theorem dX12_token_13 : decode cX12_token 13 = .ok (.bipush 32, 2) := by decide +kernel
theorem dX12_token_15 : decode cX12_token 15 = .ok (.if_icmp .ne 16, 3) := by decide +kernel
theorem dX12_token_18 : decode cX12_token 18 = .ok (.aload_n 0, 1) := by decide +kernel
theorem dX12_token_19 : decode cX12_token 19 = .ok (.dup, 1) := by decide +kernel
theorem dX12_token_20 : decode cX12_token 20 = .ok (.getfield 142, 3) := by decide +kernel
theorem dX12_token_23 : decode cX12_token 23 = .ok (.iconst 1, 1) := by decide +kernel
theorem dX12_token_24 : decode cX12_token 24 = .ok (.iadd, 1) := by decide +kernel
theorem dX12_token_25 : decode cX12_token 25 = .ok (.putfield 142, 3) := by decide +kernel
theorem dX12_token_28 : decode cX12_token 28 = .ok (.goto (-28), 3) := by decide +kernel
theorem dX12_token_31 : decode cX12_token 31 = .ok (.aload_n 0, 1) := by decide +kernel
theorem dX12_token_32 : decode cX12_token 32 = .ok (.aload_n 0, 1) := by decide +kernel
theorem dX12_token_33 : decode cX12_token 33 = .ok (.getfield 142, 3) := by decide +kernel
theorem dX12_token_36 : decode cX12_token 36 = .ok (.putfield 152, 3) := by decide +kernel
theorem dX12_token_39 : decode cX12_token 39 = .ok (.aload_n 0, 1) := by decide +kernel
theorem dX12_token_40 : decode cX12_token 40 = .ok (.invokevirtual 148, 3) := by decide +kernel
theorem dX12_token_43 : decode cX12_token 43 = .ok (.istore_n 1, 1) := by decide +kernel
theorem dX12_token_44 : decode cX12_token 44 = .ok (.iload_n 1, 1) := by decide +kernel
theorem dX12_token_45 : decode cX12_token 45 = .ok (.iconst (-1), 1) := by decide +kernel
theorem dX12_token_46 : decode cX12_token 46 = .ok (.if_icmp .ne 11, 3) := by decide +kernel
theorem dX12_token_49 : decode cX12_token 49 = .ok (.aload_n 0, 1) := by decide +kernel
theorem dX12_token_50 : decode cX12_token 50 = .ok (.iconst 4, 1) := by decide +kernel
theorem dX12_token_51 : decode cX12_token 51 = .ok (.putfield 155, 3) := by decide +kernel
theorem dX12_token_54 : decode cX12_token 54 = .ok (.goto 171, 3) := by decide +kernel
theorem dX12_token_57 : decode cX12_token 57 = .ok (.iload_n 1, 1) := by decide +kernel
theorem dX12_token_58 : decode cX12_token 58 = .ok (.invokestatic 158, 3) := by decide +kernel
theorem dX12_token_61 : decode cX12_token 61 = .ok (.ifCond .eq 84, 3) := by decide +kernel
theorem dX12_token_64 : decode cX12_token 64 = .ok (.aload_n 0, 1) := by decide +kernel
theorem dX12_token_65 : decode cX12_token 65 = .ok (.invokevirtual 148, 3) := by decide +kernel
theorem dX12_token_68 : decode cX12_token 68 = .ok (.invokestatic 158, 3) := by decide +kernel
theorem dX12_token_71 : decode cX12_token 71 = .ok (.ifCond .eq 16, 3) := by decide +kernel
theorem dX12_token_74 : decode cX12_token 74 = .ok (.aload_n 0, 1) := by decide +kernel
theorem dX12_token_75 : decode cX12_token 75 = .ok (.dup, 1) := by decide +kernel
theorem dX12_token_76 : decode cX12_token 76 = .ok (.getfield 142, 3) := by decide +kernel
theorem dX12_token_79 : decode cX12_token 79 = .ok (.iconst 1, 1) := by decide +kernel
theorem dX12_token_80 : decode cX12_token 80 = .ok (.iadd, 1) := by decide +kernel
theorem dX12_token_81 : decode cX12_token 81 = .ok (.putfield 142, 3) := by decide +kernel
theorem dX12_token_84 : decode cX12_token 84 = .ok (.goto (-20), 3) := by decide +kernel
theorem dX12_token_87 : decode cX12_token 87 = .ok (.aload_n 0, 1) := by decide +kernel
theorem dX12_token_88 : decode cX12_token 88 = .ok (.aload_n 0, 1) := by decide +kernel
theorem dX12_token_89 : decode cX12_token 89 = .ok (.invokevirtual 162, 3) := by decide +kernel
theorem dX12_token_92 : decode cX12_token 92 = .ok (.putfield 165, 3) := by decide +kernel
theorem dX12_token_95 : decode cX12_token 95 = .ok (.aload_n 0, 1) := by decide +kernel
theorem dX12_token_96 : decode cX12_token 96 = .ok (.aload_n 0, 1) := by decide +kernel
theorem dX12_token_97 : decode cX12_token 97 = .ok (.getfield 165, 3) := by decide +kernel
theorem dX12_token_100 : decode cX12_token 100 = .ok (.iconst (-1), 1) := by decide +kernel
theorem dX12_token_101 : decode cX12_token 101 = .ok (.if_icmp .eq 7, 3) := by decide +kernel
theorem dX12_token_104 : decode cX12_token 104 = .ok (.iconst 0, 1) := by decide +kernel
theorem dX12_token_105 : decode cX12_token 105 = .ok (.goto 22, 3) := by decide +kernel
theorem dX12_token_108 : decode cX12_token 108 = .ok (.aload_n 0, 1) := by decide +kernel
theorem dX12_token_109 : decode cX12_token 109 = .ok (.getfield 142, 3) := by decide +kernel
theorem dX12_token_112 : decode cX12_token 112 = .ok (.aload_n 0, 1) := by decide +kernel
theorem dX12_token_113 : decode cX12_token 113 = .ok (.getfield 152, 3) := by decide +kernel
theorem dX12_token_116 : decode cX12_token 116 = .ok (.isub, 1) := by decide +kernel
theorem dX12_token_117 : decode cX12_token 117 = .ok (.bipush 6, 2) := by decide +kernel
theorem dX12_token_119 : decode cX12_token 119 = .ok (.if_icmp .le 7, 3) := by decide +kernel
theorem dX12_token_122 : decode cX12_token 122 = .ok (.iconst 5, 1) := by decide +kernel
theorem dX12_token_123 : decode cX12_token 123 = .ok (.goto 4, 3) := by decide +kernel
theorem dX12_token_126 : decode cX12_token 126 = .ok (.iconst 1, 1) := by decide +kernel
theorem dX12_token_127 : decode cX12_token 127 = .ok (.putfield 155, 3) := by decide +kernel
theorem dX12_token_130 : decode cX12_token 130 = .ok (.aload_n 0, 1) := by decide +kernel
theorem dX12_token_131 : decode cX12_token 131 = .ok (.getfield 155, 3) := by decide +kernel
theorem dX12_token_134 : decode cX12_token 134 = .ok (.iconst 1, 1) := by decide +kernel
theorem dX12_token_135 : decode cX12_token 135 = .ok (.if_icmp .ne 90, 3) := by decide +kernel
theorem dX12_token_138 : decode cX12_token 138 = .ok (.aload_n 0, 1) := by decide +kernel
theorem dX12_token_139 : decode cX12_token 139 = .ok (.invokevirtual 168, 3) := by decide +kernel
theorem dX12_token_142 : decode cX12_token 142 = .ok (.goto 83, 3) := by decide +kernel
theorem dX12_token_145 : decode cX12_token 145 = .ok (.iload_n 1, 1) := by decide +kernel
theorem dX12_token_146 : decode cX12_token 146 = .ok (.invokestatic 171, 3) := by decide +kernel
theorem dX12_token_149 : decode cX12_token 149 = .ok (.ifCond .eq 71, 3) := by decide +kernel
theorem dX12_token_152 : decode cX12_token 152 = .ok (.aload_n 0, 1) := by decide +kernel
theorem dX12_token_153 : decode cX12_token 153 = .ok (.iconst 2, 1) := by decide +kernel
theorem dX12_token_154 : decode cX12_token 154 = .ok (.putfield 155, 3) := by decide +kernel
theorem dX12_token_157 : decode cX12_token 157 = .ok (.aload_n 0, 1) := by decide +kernel
theorem dX12_token_158 : decode cX12_token 158 = .ok (.iconst 0, 1) := by decide +kernel
theorem dX12_token_159 : decode cX12_token 159 = .ok (.putfield 165, 3) := by decide +kernel
theorem dX12_token_162 : decode cX12_token 162 = .ok (.aload_n 0, 1) := by decide +kernel
theorem dX12_token_163 : decode cX12_token 163 = .ok (.invokevirtual 148, 3) := by decide +kernel
theorem dX12_token_166 : decode cX12_token 166 = .ok (.invokestatic 171, 3) := by decide +kernel
theorem dX12_token_169 : decode cX12_token 169 = .ok (.ifCond .eq 56, 3) := by decide +kernel
theorem dX12_token_172 : decode cX12_token 172 = .ok (.aload_n 0, 1) := by decide +kernel
theorem dX12_token_173 : decode cX12_token 173 = .ok (.aload_n 0, 1) := by decide +kernel
theorem dX12_token_174 : decode cX12_token 174 = .ok (.getfield 165, 3) := by decide +kernel
theorem dX12_token_177 : decode cX12_token 177 = .ok (.ldc 174, 2) := by decide +kernel
theorem dX12_token_179 : decode cX12_token 179 = .ok (.if_icmp .le 10, 3) := by decide +kernel
theorem dX12_token_182 : decode cX12_token 182 = .ok (.aload_n 0, 1) := by decide +kernel
theorem dX12_token_183 : decode cX12_token 183 = .ok (.getfield 165, 3) := by decide +kernel
theorem dX12_token_186 : decode cX12_token 186 = .ok (.goto 18, 3) := by decide +kernel
theorem dX12_token_189 : decode cX12_token 189 = .ok (.bipush 10, 2) := by decide +kernel
theorem dX12_token_191 : decode cX12_token 191 = .ok (.aload_n 0, 1) := by decide +kernel
theorem dX12_token_192 : decode cX12_token 192 = .ok (.getfield 165, 3) := by decide +kernel
theorem dX12_token_195 : decode cX12_token 195 = .ok (.imul, 1) := by decide +kernel
theorem dX12_token_196 : decode cX12_token 196 = .ok (.aload_n 0, 1) := by decide +kernel
theorem dX12_token_197 : decode cX12_token 197 = .ok (.invokevirtual 148, 3) := by decide +kernel
theorem dX12_token_200 : decode cX12_token 200 = .ok (.iadd, 1) := by decide +kernel
theorem dX12_token_201 : decode cX12_token 201 = .ok (.bipush 48, 2) := by decide +kernel
theorem dX12_token_203 : decode cX12_token 203 = .ok (.isub, 1) := by decide +kernel
theorem dX12_token_204 : decode cX12_token 204 = .ok (.putfield 165, 3) := by decide +kernel
theorem dX12_token_207 : decode cX12_token 207 = .ok (.aload_n 0, 1) := by decide +kernel
theorem dX12_token_208 : decode cX12_token 208 = .ok (.dup, 1) := by decide +kernel
theorem dX12_token_209 : decode cX12_token 209 = .ok (.getfield 142, 3) := by decide +kernel
theorem dX12_token_212 : decode cX12_token 212 = .ok (.iconst 1, 1) := by decide +kernel
theorem dX12_token_213 : decode cX12_token 213 = .ok (.iadd, 1) := by decide +kernel
theorem dX12_token_214 : decode cX12_token 214 = .ok (.putfield 142, 3) := by decide +kernel
theorem dX12_token_217 : decode cX12_token 217 = .ok (.goto (-55), 3) := by decide +kernel
theorem dX12_token_220 : decode cX12_token 220 = .ok (.aload_n 0, 1) := by decide +kernel
theorem dX12_token_221 : decode cX12_token 221 = .ok (.iload_n 1, 1) := by decide +kernel
theorem dX12_token_222 : decode cX12_token 222 = .ok (.invokevirtual 175, 3) := by decide +kernel
theorem dX12_token_225 : decode cX12_token 225 = .ok (.return_, 1) := by decide +kernel
theorem dX12_sign_0 : decode cX12_sign 0 = .ok (.aload_n 0, 1) := by decide +kernel
theorem dX12_sign_1 : decode cX12_sign 1 = .ok (.dup, 1) := by decide +kernel
theorem dX12_sign_2 : decode cX12_sign 2 = .ok (.getfield 142, 3) := by decide +kernel
theorem dX12_sign_5 : decode cX12_sign 5 = .ok (.iconst 1, 1) := by decide +kernel
theorem dX12_sign_6 : decode cX12_sign 6 = .ok (.iadd, 1) := by decide +kernel
theorem dX12_sign_7 : decode cX12_sign 7 = .ok (.putfield 142, 3) := by decide +kernel
theorem dX12_sign_10 : decode cX12_sign 10 = .ok (.aload_n 0, 1) := by decide +kernel
theorem dX12_sign_11 : decode cX12_sign 11 = .ok (.iload_n 1, 1) := by decide +kernel
theorem dX12_sign_12 : decode cX12_sign 12 = .ok (.bipush 59, 2) := by decide +kernel
theorem dX12_sign_14 : decode cX12_sign 14 = .ok (.if_icmp .eq 57, 3) := by decide +kernel
theorem dX12_sign_17 : decode cX12_sign 17 = .ok (.iload_n 1, 1) := by decide +kernel
theorem dX12_sign_18 : decode cX12_sign 18 = .ok (.bipush 40, 2) := by decide +kernel
theorem dX12_sign_20 : decode cX12_sign 20 = .ok (.if_icmp .eq 51, 3) := by decide +kernel
theorem dX12_sign_23 : decode cX12_sign 23 = .ok (.iload_n 1, 1) := by decide +kernel
theorem dX12_sign_24 : decode cX12_sign 24 = .ok (.bipush 41, 2) := by decide +kernel
theorem dX12_sign_26 : decode cX12_sign 26 = .ok (.if_icmp .eq 45, 3) := by decide +kernel
theorem dX12_sign_29 : decode cX12_sign 29 = .ok (.iload_n 1, 1) := by decide +kernel
theorem dX12_sign_30 : decode cX12_sign 30 = .ok (.bipush 43, 2) := by decide +kernel
theorem dX12_sign_32 : decode cX12_sign 32 = .ok (.if_icmp .eq 39, 3) := by decide +kernel
theorem dX12_sign_35 : decode cX12_sign 35 = .ok (.iload_n 1, 1) := by decide +kernel
theorem dX12_sign_36 : decode cX12_sign 36 = .ok (.bipush 45, 2) := by decide +kernel
theorem dX12_sign_38 : decode cX12_sign 38 = .ok (.if_icmp .eq 33, 3) := by decide +kernel
theorem dX12_sign_41 : decode cX12_sign 41 = .ok (.iload_n 1, 1) := by decide +kernel
theorem dX12_sign_42 : decode cX12_sign 42 = .ok (.bipush 42, 2) := by decide +kernel
theorem dX12_sign_44 : decode cX12_sign 44 = .ok (.if_icmp .eq 27, 3) := by decide +kernel
theorem dX12_sign_47 : decode cX12_sign 47 = .ok (.iload_n 1, 1) := by decide +kernel
theorem dX12_sign_48 : decode cX12_sign 48 = .ok (.bipush 47, 2) := by decide +kernel
theorem dX12_sign_50 : decode cX12_sign 50 = .ok (.if_icmp .eq 21, 3) := by decide +kernel
theorem dX12_sign_53 : decode cX12_sign 53 = .ok (.iload_n 1, 1) := by decide +kernel
theorem dX12_sign_54 : decode cX12_sign 54 = .ok (.bipush 60, 2) := by decide +kernel
theorem dX12_sign_56 : decode cX12_sign 56 = .ok (.if_icmp .eq 15, 3) := by decide +kernel
theorem dX12_sign_59 : decode cX12_sign 59 = .ok (.iload_n 1, 1) := by decide +kernel
theorem dX12_sign_60 : decode cX12_sign 60 = .ok (.bipush 61, 2) := by decide +kernel
theorem dX12_sign_62 : decode cX12_sign 62 = .ok (.if_icmp .eq 9, 3) := by decide +kernel
theorem dX12_sign_65 : decode cX12_sign 65 = .ok (.iload_n 1, 1) := by decide +kernel
theorem dX12_sign_66 : decode cX12_sign 66 = .ok (.bipush 62, 2) := by decide +kernel
theorem dX12_sign_68 : decode cX12_sign 68 = .ok (.if_icmp .ne 7, 3) := by decide +kernel
theorem dX12_sign_71 : decode cX12_sign 71 = .ok (.iconst 3, 1) := by decide +kernel
theorem dX12_sign_72 : decode cX12_sign 72 = .ok (.goto 4, 3) := by decide +kernel
theorem dX12_sign_75 : decode cX12_sign 75 = .ok (.iconst 5, 1) := by decide +kernel
theorem dX12_sign_76 : decode cX12_sign 76 = .ok (.putfield 155, 3) := by decide +kernel
theorem dX12_sign_79 : decode cX12_sign 79 = .ok (.aload_n 0, 1) := by decide +kernel
theorem dX12_sign_80 : decode cX12_sign 80 = .ok (.iload_n 1, 1) := by decide +kernel
theorem dX12_sign_81 : decode cX12_sign 81 = .ok (.putfield 165, 3) := by decide +kernel
theorem dX12_sign_84 : decode cX12_sign 84 = .ok (.iload_n 1, 1) := by decide +kernel
theorem dX12_sign_85 : decode cX12_sign 85 = .ok (.bipush 60, 2) := by decide +kernel
theorem dX12_sign_87 : decode cX12_sign 87 = .ok (.if_icmp .ne 19, 3) := by decide +kernel
theorem dX12_sign_90 : decode cX12_sign 90 = .ok (.aload_n 0, 1) := by decide +kernel
theorem dX12_sign_91 : decode cX12_sign 91 = .ok (.invokevirtual 148, 3) := by decide +kernel
theorem dX12_sign_94 : decode cX12_sign 94 = .ok (.bipush 61, 2) := by decide +kernel
theorem dX12_sign_96 : decode cX12_sign 96 = .ok (.if_icmp .ne 10, 3) := by decide +kernel
theorem dX12_sign_99 : decode cX12_sign 99 = .ok (.aload_n 0, 1) := by decide +kernel
theorem dX12_sign_100 : decode cX12_sign 100 = .ok (.sipush 256, 3) := by decide +kernel
theorem dX12_sign_103 : decode cX12_sign 103 = .ok (.putfield 165, 3) := by decide +kernel
theorem dX12_sign_106 : decode cX12_sign 106 = .ok (.iload_n 1, 1) := by decide +kernel
theorem dX12_sign_107 : decode cX12_sign 107 = .ok (.bipush 60, 2) := by decide +kernel
theorem dX12_sign_109 : decode cX12_sign 109 = .ok (.if_icmp .ne 19, 3) := by decide +kernel
theorem dX12_sign_112 : decode cX12_sign 112 = .ok (.aload_n 0, 1) := by decide +kernel
theorem dX12_sign_113 : decode cX12_sign 113 = .ok (.invokevirtual 148, 3) := by decide +kernel
theorem dX12_sign_116 : decode cX12_sign 116 = .ok (.bipush 62, 2) := by decide +kernel
theorem dX12_sign_118 : decode cX12_sign 118 = .ok (.if_icmp .ne 10, 3) := by decide +kernel
theorem dX12_sign_121 : decode cX12_sign 121 = .ok (.aload_n 0, 1) := by decide +kernel
theorem dX12_sign_122 : decode cX12_sign 122 = .ok (.sipush 257, 3) := by decide +kernel
theorem dX12_sign_125 : decode cX12_sign 125 = .ok (.putfield 165, 3) := by decide +kernel
theorem dX12_sign_128 : decode cX12_sign 128 = .ok (.iload_n 1, 1) := by decide +kernel
theorem dX12_sign_129 : decode cX12_sign 129 = .ok (.bipush 62, 2) := by decide +kernel
theorem dX12_sign_131 : decode cX12_sign 131 = .ok (.if_icmp .ne 19, 3) := by decide +kernel
theorem dX12_sign_134 : decode cX12_sign 134 = .ok (.aload_n 0, 1) := by decide +kernel
theorem dX12_sign_135 : decode cX12_sign 135 = .ok (.invokevirtual 148, 3) := by decide +kernel
theorem dX12_sign_138 : decode cX12_sign 138 = .ok (.bipush 61, 2) := by decide +kernel
theorem dX12_sign_140 : decode cX12_sign 140 = .ok (.if_icmp .ne 10, 3) := by decide +kernel
theorem dX12_sign_143 : decode cX12_sign 143 = .ok (.aload_n 0, 1) := by decide +kernel
theorem dX12_sign_144 : decode cX12_sign 144 = .ok (.sipush 258, 3) := by decide +kernel
theorem dX12_sign_147 : decode cX12_sign 147 = .ok (.putfield 165, 3) := by decide +kernel
theorem dX12_sign_150 : decode cX12_sign 150 = .ok (.aload_n 0, 1) := by decide +kernel
theorem dX12_sign_151 : decode cX12_sign 151 = .ok (.getfield 165, 3) := by decide +kernel
theorem dX12_sign_154 : decode cX12_sign 154 = .ok (.sipush 256, 3) := by decide +kernel
theorem dX12_sign_157 : decode cX12_sign 157 = .ok (.if_icmp .lt 13, 3) := by decide +kernel
theorem dX12_sign_160 : decode cX12_sign 160 = .ok (.aload_n 0, 1) := by decide +kernel
theorem dX12_sign_161 : decode cX12_sign 161 = .ok (.dup, 1) := by decide +kernel
theorem dX12_sign_162 : decode cX12_sign 162 = .ok (.getfield 142, 3) := by decide +kernel
theorem dX12_sign_165 : decode cX12_sign 165 = .ok (.iconst 1, 1) := by decide +kernel
theorem dX12_sign_166 : decode cX12_sign 166 = .ok (.iadd, 1) := by decide +kernel
theorem dX12_sign_167 : decode cX12_sign 167 = .ok (.putfield 142, 3) := by decide +kernel
theorem dX12_sign_170 : decode cX12_sign 170 = .ok (.return_, 1) := by decide +kernel
theorem dX12_word_0 : decode cX12_word 0 = .ok (.iconst 0, 1) := by decide +kernel
theorem dX12_word_1 : decode cX12_word 1 = .ok (.istore_n 1, 1) := by decide +kernel
theorem dX12_word_2 : decode cX12_word 2 = .ok (.iconst 0, 1) := by decide +kernel
theorem dX12_word_3 : decode cX12_word 3 = .ok (.istore_n 2, 1) := by decide +kernel
theorem dX12_word_4 : decode cX12_word 4 = .ok (.iload_n 2, 1) := by decide +kernel
theorem dX12_word_5 : decode cX12_word 5 = .ok (.ldc 179, 2) := by decide +kernel
theorem dX12_word_7 : decode cX12_word 7 = .ok (.invokevirtual 181, 3) := by decide +kernel
theorem dX12_word_10 : decode cX12_word 10 = .ok (.if_icmp .ge 113, 3) := by decide +kernel
theorem dX12_word_13 : decode cX12_word 13 = .ok (.iconst 0, 1) := by decide +kernel
theorem dX12_word_14 : decode cX12_word 14 = .ok (.istore_n 3, 1) := by decide +kernel
theorem dX12_word_15 : decode cX12_word 15 = .ok (.ldc 179, 2) := by decide +kernel
theorem dX12_word_17 : decode cX12_word 17 = .ok (.iload_n 2, 1) := by decide +kernel
theorem dX12_word_18 : decode cX12_word 18 = .ok (.iload_n 3, 1) := by decide +kernel
theorem dX12_word_19 : decode cX12_word 19 = .ok (.iadd, 1) := by decide +kernel
theorem dX12_word_20 : decode cX12_word 20 = .ok (.invokevirtual 186, 3) := by decide +kernel
theorem dX12_word_23 : decode cX12_word 23 = .ok (.bipush 32, 2) := by decide +kernel
theorem dX12_word_25 : decode cX12_word 25 = .ok (.if_icmp .eq 44, 3) := by decide +kernel
theorem dX12_word_28 : decode cX12_word 28 = .ok (.aload_n 0, 1) := by decide +kernel
theorem dX12_word_29 : decode cX12_word 29 = .ok (.getfield 152, 3) := by decide +kernel
theorem dX12_word_32 : decode cX12_word 32 = .ok (.iload_n 3, 1) := by decide +kernel
theorem dX12_word_33 : decode cX12_word 33 = .ok (.iadd, 1) := by decide +kernel
theorem dX12_word_34 : decode cX12_word 34 = .ok (.aload_n 0, 1) := by decide +kernel
theorem dX12_word_35 : decode cX12_word 35 = .ok (.getfield 142, 3) := by decide +kernel
theorem dX12_word_38 : decode cX12_word 38 = .ok (.if_icmp .ge 31, 3) := by decide +kernel
theorem dX12_word_41 : decode cX12_word 41 = .ok (.aload_n 0, 1) := by decide +kernel
theorem dX12_word_42 : decode cX12_word 42 = .ok (.getfield 7, 3) := by decide +kernel
theorem dX12_word_45 : decode cX12_word 45 = .ok (.aload_n 0, 1) := by decide +kernel
theorem dX12_word_46 : decode cX12_word 46 = .ok (.getfield 152, 3) := by decide +kernel
theorem dX12_word_49 : decode cX12_word 49 = .ok (.iload_n 3, 1) := by decide +kernel
theorem dX12_word_50 : decode cX12_word 50 = .ok (.iadd, 1) := by decide +kernel
theorem dX12_word_51 : decode cX12_word 51 = .ok (.iaload, 1) := by decide +kernel
theorem dX12_word_52 : decode cX12_word 52 = .ok (.ldc 179, 2) := by decide +kernel
theorem dX12_word_54 : decode cX12_word 54 = .ok (.iload_n 2, 1) := by decide +kernel
theorem dX12_word_55 : decode cX12_word 55 = .ok (.iload_n 3, 1) := by decide +kernel
theorem dX12_word_56 : decode cX12_word 56 = .ok (.iadd, 1) := by decide +kernel
theorem dX12_word_57 : decode cX12_word 57 = .ok (.invokevirtual 186, 3) := by decide +kernel
theorem dX12_word_60 : decode cX12_word 60 = .ok (.if_icmp .ne 9, 3) := by decide +kernel
theorem dX12_word_63 : decode cX12_word 63 = .ok (.iinc 3 1, 3) := by decide +kernel
theorem dX12_word_66 : decode cX12_word 66 = .ok (.goto (-51), 3) := by decide +kernel
theorem dX12_word_69 : decode cX12_word 69 = .ok (.ldc 179, 2) := by decide +kernel
theorem dX12_word_71 : decode cX12_word 71 = .ok (.iload_n 2, 1) := by decide +kernel
theorem dX12_word_72 : decode cX12_word 72 = .ok (.iload_n 3, 1) := by decide +kernel
theorem dX12_word_73 : decode cX12_word 73 = .ok (.iadd, 1) := by decide +kernel
theorem dX12_word_74 : decode cX12_word 74 = .ok (.invokevirtual 186, 3) := by decide +kernel
theorem dX12_word_77 : decode cX12_word 77 = .ok (.bipush 32, 2) := by decide +kernel
theorem dX12_word_79 : decode cX12_word 79 = .ok (.if_icmp .ne 18, 3) := by decide +kernel
theorem dX12_word_82 : decode cX12_word 82 = .ok (.aload_n 0, 1) := by decide +kernel
theorem dX12_word_83 : decode cX12_word 83 = .ok (.getfield 152, 3) := by decide +kernel
theorem dX12_word_86 : decode cX12_word 86 = .ok (.iload_n 3, 1) := by decide +kernel
theorem dX12_word_87 : decode cX12_word 87 = .ok (.iadd, 1) := by decide +kernel
theorem dX12_word_88 : decode cX12_word 88 = .ok (.aload_n 0, 1) := by decide +kernel
theorem dX12_word_89 : decode cX12_word 89 = .ok (.getfield 142, 3) := by decide +kernel
theorem dX12_word_92 : decode cX12_word 92 = .ok (.if_icmp .ne 5, 3) := by decide +kernel
theorem dX12_word_95 : decode cX12_word 95 = .ok (.iload_n 1, 1) := by decide +kernel
theorem dX12_word_96 : decode cX12_word 96 = .ok (.ireturn, 1) := by decide +kernel
theorem dX12_word_97 : decode cX12_word 97 = .ok (.ldc 179, 2) := by decide +kernel
theorem dX12_word_99 : decode cX12_word 99 = .ok (.iload_n 2, 1) := by decide +kernel
theorem dX12_word_100 : decode cX12_word 100 = .ok (.invokevirtual 186, 3) := by decide +kernel
theorem dX12_word_103 : decode cX12_word 103 = .ok (.bipush 32, 2) := by decide +kernel
theorem dX12_word_105 : decode cX12_word 105 = .ok (.if_icmp .eq 9, 3) := by decide +kernel
theorem dX12_word_108 : decode cX12_word 108 = .ok (.iinc 2 1, 3) := by decide +kernel
theorem dX12_word_111 : decode cX12_word 111 = .ok (.goto (-14), 3) := by decide +kernel
theorem dX12_word_114 : decode cX12_word 114 = .ok (.iinc 2 1, 3) := by decide +kernel
theorem dX12_word_117 : decode cX12_word 117 = .ok (.iinc 1 1, 3) := by decide +kernel
theorem dX12_word_120 : decode cX12_word 120 = .ok (.goto (-116), 3) := by decide +kernel
theorem dX12_word_123 : decode cX12_word 123 = .ok (.iconst (-1), 1) := by decide +kernel
theorem dX12_word_124 : decode cX12_word 124 = .ok (.ireturn, 1) := by decide +kernel
theorem dX12_name_0 : decode cX12_name 0 = .ok (.aload_n 0, 1) := by decide +kernel
theorem dX12_name_1 : decode cX12_name 1 = .ok (.iconst 0, 1) := by decide +kernel
theorem dX12_name_2 : decode cX12_name 2 = .ok (.putfield 165, 3) := by decide +kernel
theorem dX12_name_5 : decode cX12_name 5 = .ok (.iconst 0, 1) := by decide +kernel
theorem dX12_name_6 : decode cX12_name 6 = .ok (.istore_n 1, 1) := by decide +kernel
theorem dX12_name_7 : decode cX12_name 7 = .ok (.iload_n 1, 1) := by decide +kernel
theorem dX12_name_8 : decode cX12_name 8 = .ok (.bipush 6, 2) := by decide +kernel
theorem dX12_name_10 : decode cX12_name 10 = .ok (.if_icmp .ge 53, 3) := by decide +kernel
theorem dX12_name_13 : decode cX12_name 13 = .ok (.aload_n 0, 1) := by decide +kernel
theorem dX12_name_14 : decode cX12_name 14 = .ok (.aload_n 0, 1) := by decide +kernel
theorem dX12_name_15 : decode cX12_name 15 = .ok (.getfield 165, 3) := by decide +kernel
theorem dX12_name_18 : decode cX12_name 18 = .ok (.iconst 5, 1) := by decide +kernel
theorem dX12_name_19 : decode cX12_name 19 = .ok (.ishl, 1) := by decide +kernel
theorem dX12_name_20 : decode cX12_name 20 = .ok (.aload_n 0, 1) := by decide +kernel
theorem dX12_name_21 : decode cX12_name 21 = .ok (.getfield 152, 3) := by decide +kernel
theorem dX12_name_24 : decode cX12_name 24 = .ok (.iload_n 1, 1) := by decide +kernel
theorem dX12_name_25 : decode cX12_name 25 = .ok (.iadd, 1) := by decide +kernel
theorem dX12_name_26 : decode cX12_name 26 = .ok (.aload_n 0, 1) := by decide +kernel
theorem dX12_name_27 : decode cX12_name 27 = .ok (.getfield 142, 3) := by decide +kernel
theorem dX12_name_30 : decode cX12_name 30 = .ok (.if_icmp .ge 22, 3) := by decide +kernel
theorem dX12_name_33 : decode cX12_name 33 = .ok (.aload_n 0, 1) := by decide +kernel
theorem dX12_name_34 : decode cX12_name 34 = .ok (.getfield 7, 3) := by decide +kernel
theorem dX12_name_37 : decode cX12_name 37 = .ok (.aload_n 0, 1) := by decide +kernel
theorem dX12_name_38 : decode cX12_name 38 = .ok (.getfield 152, 3) := by decide +kernel
theorem dX12_name_41 : decode cX12_name 41 = .ok (.iload_n 1, 1) := by decide +kernel
theorem dX12_name_42 : decode cX12_name 42 = .ok (.iadd, 1) := by decide +kernel
theorem dX12_name_43 : decode cX12_name 43 = .ok (.iaload, 1) := by decide +kernel
theorem dX12_name_44 : decode cX12_name 44 = .ok (.bipush 97, 2) := by decide +kernel
theorem dX12_name_46 : decode cX12_name 46 = .ok (.isub, 1) := by decide +kernel
theorem dX12_name_47 : decode cX12_name 47 = .ok (.iconst 1, 1) := by decide +kernel
theorem dX12_name_48 : decode cX12_name 48 = .ok (.iadd, 1) := by decide +kernel
theorem dX12_name_49 : decode cX12_name 49 = .ok (.goto 4, 3) := by decide +kernel
theorem dX12_name_52 : decode cX12_name 52 = .ok (.iconst 0, 1) := by decide +kernel
theorem dX12_name_53 : decode cX12_name 53 = .ok (.ior, 1) := by decide +kernel
theorem dX12_name_54 : decode cX12_name 54 = .ok (.putfield 165, 3) := by decide +kernel
theorem dX12_name_57 : decode cX12_name 57 = .ok (.iinc 1 1, 3) := by decide +kernel
theorem dX12_name_60 : decode cX12_name 60 = .ok (.goto (-53), 3) := by decide +kernel
theorem dX12_name_63 : decode cX12_name 63 = .ok (.return_, 1) := by decide +kernel
theorem dX12_wrong_0 : decode cX12_wrong 0 = .ok (.aload_n 0, 1) := by decide +kernel
theorem dX12_wrong_1 : decode cX12_wrong 1 = .ok (.getfield 190, 3) := by decide +kernel
theorem dX12_wrong_4 : decode cX12_wrong 4 = .ok (.ifCond .eq 4, 3) := by decide +kernel
theorem dX12_wrong_7 : decode cX12_wrong 7 = .ok (.return_, 1) := by decide +kernel
theorem dX12_wrong_8 : decode cX12_wrong 8 = .ok (.aload_n 0, 1) := by decide +kernel
theorem dX12_wrong_9 : decode cX12_wrong 9 = .ok (.iload_n 1, 1) := by decide +kernel
theorem dX12_wrong_10 : decode cX12_wrong 10 = .ok (.putfield 190, 3) := by decide +kernel
theorem dX12_wrong_13 : decode cX12_wrong 13 = .ok (.aload_n 0, 1) := by decide +kernel
theorem dX12_wrong_14 : decode cX12_wrong 14 = .ok (.aload_n 0, 1) := by decide +kernel
theorem dX12_wrong_15 : decode cX12_wrong 15 = .ok (.getfield 152, 3) := by decide +kernel
theorem dX12_wrong_18 : decode cX12_wrong 18 = .ok (.putfield 193, 3) := by decide +kernel
theorem dX12_wrong_21 : decode cX12_wrong 21 = .ok (.return_, 1) := by decide +kernel
theorem dX12_isWord_0 : decode cX12_isWord 0 = .ok (.aload_n 0, 1) := by decide +kernel
theorem dX12_isWord_1 : decode cX12_isWord 1 = .ok (.getfield 190, 3) := by decide +kernel
theorem dX12_isWord_4 : decode cX12_isWord 4 = .ok (.ifCond .ne 22, 3) := by decide +kernel
theorem dX12_isWord_7 : decode cX12_isWord 7 = .ok (.aload_n 0, 1) := by decide +kernel
theorem dX12_isWord_8 : decode cX12_isWord 8 = .ok (.getfield 155, 3) := by decide +kernel
theorem dX12_isWord_11 : decode cX12_isWord 11 = .ok (.ifCond .ne 15, 3) := by decide +kernel
theorem dX12_isWord_14 : decode cX12_isWord 14 = .ok (.aload_n 0, 1) := by decide +kernel
theorem dX12_isWord_15 : decode cX12_isWord 15 = .ok (.getfield 165, 3) := by decide +kernel
theorem dX12_isWord_18 : decode cX12_isWord 18 = .ok (.iload_n 1, 1) := by decide +kernel
theorem dX12_isWord_19 : decode cX12_isWord 19 = .ok (.if_icmp .ne 7, 3) := by decide +kernel
theorem dX12_isWord_22 : decode cX12_isWord 22 = .ok (.iconst 1, 1) := by decide +kernel
theorem dX12_isWord_23 : decode cX12_isWord 23 = .ok (.goto 4, 3) := by decide +kernel
theorem dX12_isWord_26 : decode cX12_isWord 26 = .ok (.iconst 0, 1) := by decide +kernel
theorem dX12_isWord_27 : decode cX12_isWord 27 = .ok (.ireturn, 1) := by decide +kernel
theorem dX12_isSign_0 : decode cX12_isSign 0 = .ok (.aload_n 0, 1) := by decide +kernel
theorem dX12_isSign_1 : decode cX12_isSign 1 = .ok (.getfield 190, 3) := by decide +kernel
theorem dX12_isSign_4 : decode cX12_isSign 4 = .ok (.ifCond .ne 23, 3) := by decide +kernel
theorem dX12_isSign_7 : decode cX12_isSign 7 = .ok (.aload_n 0, 1) := by decide +kernel
theorem dX12_isSign_8 : decode cX12_isSign 8 = .ok (.getfield 155, 3) := by decide +kernel
theorem dX12_isSign_11 : decode cX12_isSign 11 = .ok (.iconst 3, 1) := by decide +kernel
theorem dX12_isSign_12 : decode cX12_isSign 12 = .ok (.if_icmp .ne 15, 3) := by decide +kernel
theorem dX12_isSign_15 : decode cX12_isSign 15 = .ok (.aload_n 0, 1) := by decide +kernel
theorem dX12_isSign_16 : decode cX12_isSign 16 = .ok (.getfield 165, 3) := by decide +kernel
theorem dX12_isSign_19 : decode cX12_isSign 19 = .ok (.iload_n 1, 1) := by decide +kernel
theorem dX12_isSign_20 : decode cX12_isSign 20 = .ok (.if_icmp .ne 7, 3) := by decide +kernel
theorem dX12_isSign_23 : decode cX12_isSign 23 = .ok (.iconst 1, 1) := by decide +kernel
theorem dX12_isSign_24 : decode cX12_isSign 24 = .ok (.goto 4, 3) := by decide +kernel
theorem dX12_isSign_27 : decode cX12_isSign 27 = .ok (.iconst 0, 1) := by decide +kernel
theorem dX12_isSign_28 : decode cX12_isSign 28 = .ok (.ireturn, 1) := by decide +kernel
theorem dX12_goOn_0 : decode cX12_goOn 0 = .ok (.aload_n 0, 1) := by decide +kernel
theorem dX12_goOn_1 : decode cX12_goOn 1 = .ok (.getfield 190, 3) := by decide +kernel
theorem dX12_goOn_4 : decode cX12_goOn 4 = .ok (.ifCond .ne 7, 3) := by decide +kernel
theorem dX12_goOn_7 : decode cX12_goOn 7 = .ok (.aload_n 0, 1) := by decide +kernel
theorem dX12_goOn_8 : decode cX12_goOn 8 = .ok (.invokevirtual 196, 3) := by decide +kernel
theorem dX12_goOn_11 : decode cX12_goOn 11 = .ok (.return_, 1) := by decide +kernel
theorem dX12_numeral_0 : decode cX12_numeral 0 = .ok (.aload_n 0, 1) := by decide +kernel
theorem dX12_numeral_1 : decode cX12_numeral 1 = .ok (.getfield 190, 3) := by decide +kernel
theorem dX12_numeral_4 : decode cX12_numeral 4 = .ok (.ifCond .eq 5, 3) := by decide +kernel
theorem dX12_numeral_7 : decode cX12_numeral 7 = .ok (.iload_n 1, 1) := by decide +kernel
theorem dX12_numeral_8 : decode cX12_numeral 8 = .ok (.ireturn, 1) := by decide +kernel
theorem dX12_numeral_9 : decode cX12_numeral 9 = .ok (.aload_n 0, 1) := by decide +kernel
theorem dX12_numeral_10 : decode cX12_numeral 10 = .ok (.getfield 155, 3) := by decide +kernel
theorem dX12_numeral_13 : decode cX12_numeral 13 = .ok (.iconst 2, 1) := by decide +kernel
theorem dX12_numeral_14 : decode cX12_numeral 14 = .ok (.if_icmp .eq 11, 3) := by decide +kernel
theorem dX12_numeral_17 : decode cX12_numeral 17 = .ok (.aload_n 0, 1) := by decide +kernel
theorem dX12_numeral_18 : decode cX12_numeral 18 = .ok (.iconst 1, 1) := by decide +kernel
theorem dX12_numeral_19 : decode cX12_numeral 19 = .ok (.invokevirtual 199, 3) := by decide +kernel
theorem dX12_numeral_22 : decode cX12_numeral 22 = .ok (.goto 24, 3) := by decide +kernel
theorem dX12_numeral_25 : decode cX12_numeral 25 = .ok (.aload_n 0, 1) := by decide +kernel
theorem dX12_numeral_26 : decode cX12_numeral 26 = .ok (.getfield 165, 3) := by decide +kernel
theorem dX12_numeral_29 : decode cX12_numeral 29 = .ok (.iload_n 1, 1) := by decide +kernel
theorem dX12_numeral_30 : decode cX12_numeral 30 = .ok (.if_icmp .lt 11, 3) := by decide +kernel
theorem dX12_numeral_33 : decode cX12_numeral 33 = .ok (.aload_n 0, 1) := by decide +kernel
theorem dX12_numeral_34 : decode cX12_numeral 34 = .ok (.getfield 165, 3) := by decide +kernel
theorem dX12_numeral_37 : decode cX12_numeral 37 = .ok (.iload_n 2, 1) := by decide +kernel
theorem dX12_numeral_38 : decode cX12_numeral 38 = .ok (.if_icmp .le 8, 3) := by decide +kernel
theorem dX12_numeral_41 : decode cX12_numeral 41 = .ok (.aload_n 0, 1) := by decide +kernel
theorem dX12_numeral_42 : decode cX12_numeral 42 = .ok (.iconst 2, 1) := by decide +kernel
theorem dX12_numeral_43 : decode cX12_numeral 43 = .ok (.invokevirtual 199, 3) := by decide +kernel
theorem dX12_numeral_46 : decode cX12_numeral 46 = .ok (.aload_n 0, 1) := by decide +kernel
theorem dX12_numeral_47 : decode cX12_numeral 47 = .ok (.getfield 190, 3) := by decide +kernel
theorem dX12_numeral_50 : decode cX12_numeral 50 = .ok (.ifCond .eq 5, 3) := by decide +kernel
theorem dX12_numeral_53 : decode cX12_numeral 53 = .ok (.iload_n 1, 1) := by decide +kernel
theorem dX12_numeral_54 : decode cX12_numeral 54 = .ok (.ireturn, 1) := by decide +kernel
theorem dX12_numeral_55 : decode cX12_numeral 55 = .ok (.aload_n 0, 1) := by decide +kernel
theorem dX12_numeral_56 : decode cX12_numeral 56 = .ok (.getfield 165, 3) := by decide +kernel
theorem dX12_numeral_59 : decode cX12_numeral 59 = .ok (.istore_n 3, 1) := by decide +kernel
theorem dX12_numeral_60 : decode cX12_numeral 60 = .ok (.aload_n 0, 1) := by decide +kernel
theorem dX12_numeral_61 : decode cX12_numeral 61 = .ok (.invokevirtual 196, 3) := by decide +kernel
theorem dX12_numeral_64 : decode cX12_numeral 64 = .ok (.iload_n 3, 1) := by decide +kernel
theorem dX12_numeral_65 : decode cX12_numeral 65 = .ok (.ireturn, 1) := by decide +kernel
theorem dX12_found_0 : decode cX12_found 0 = .ok (.iconst 0, 1) := by decide +kernel
theorem dX12_found_1 : decode cX12_found 1 = .ok (.istore 4, 2) := by decide +kernel
theorem dX12_found_3 : decode cX12_found 3 = .ok (.iload 4, 2) := by decide +kernel
theorem dX12_found_5 : decode cX12_found 5 = .ok (.iload_n 2, 1) := by decide +kernel
theorem dX12_found_6 : decode cX12_found 6 = .ok (.if_icmp .ge 22, 3) := by decide +kernel
theorem dX12_found_9 : decode cX12_found 9 = .ok (.aload_n 0, 1) := by decide +kernel
theorem dX12_found_10 : decode cX12_found 10 = .ok (.iload_n 1, 1) := by decide +kernel
theorem dX12_found_11 : decode cX12_found 11 = .ok (.iload 4, 2) := by decide +kernel
theorem dX12_found_13 : decode cX12_found 13 = .ok (.iadd, 1) := by decide +kernel
theorem dX12_found_14 : decode cX12_found 14 = .ok (.iaload, 1) := by decide +kernel
theorem dX12_found_15 : decode cX12_found 15 = .ok (.iload_n 3, 1) := by decide +kernel
theorem dX12_found_16 : decode cX12_found 16 = .ok (.if_icmp .ne 6, 3) := by decide +kernel
theorem dX12_found_19 : decode cX12_found 19 = .ok (.iload 4, 2) := by decide +kernel
theorem dX12_found_21 : decode cX12_found 21 = .ok (.ireturn, 1) := by decide +kernel
theorem dX12_found_22 : decode cX12_found 22 = .ok (.iinc 4 1, 3) := by decide +kernel
theorem dX12_found_25 : decode cX12_found 25 = .ok (.goto (-22), 3) := by decide +kernel
theorem dX12_found_28 : decode cX12_found 28 = .ok (.iconst (-1), 1) := by decide +kernel
theorem dX12_found_29 : decode cX12_found 29 = .ok (.ireturn, 1) := by decide +kernel
theorem dX12_fresh_0 : decode cX12_fresh 0 = .ok (.aload_n 0, 1) := by decide +kernel
theorem dX12_fresh_1 : decode cX12_fresh 1 = .ok (.getfield 190, 3) := by decide +kernel
theorem dX12_fresh_4 : decode cX12_fresh 4 = .ok (.ifCond .eq 5, 3) := by decide +kernel
theorem dX12_fresh_7 : decode cX12_fresh 7 = .ok (.iconst 0, 1) := by decide +kernel
theorem dX12_fresh_8 : decode cX12_fresh 8 = .ok (.ireturn, 1) := by decide +kernel
theorem dX12_fresh_9 : decode cX12_fresh 9 = .ok (.aload_n 0, 1) := by decide +kernel
theorem dX12_fresh_10 : decode cX12_fresh 10 = .ok (.getfield 155, 3) := by decide +kernel
theorem dX12_fresh_13 : decode cX12_fresh 13 = .ok (.iconst 1, 1) := by decide +kernel
theorem dX12_fresh_14 : decode cX12_fresh 14 = .ok (.if_icmp .eq 11, 3) := by decide +kernel
theorem dX12_fresh_17 : decode cX12_fresh 17 = .ok (.aload_n 0, 1) := by decide +kernel
theorem dX12_fresh_18 : decode cX12_fresh 18 = .ok (.iconst 1, 1) := by decide +kernel
theorem dX12_fresh_19 : decode cX12_fresh 19 = .ok (.invokevirtual 199, 3) := by decide +kernel
theorem dX12_fresh_22 : decode cX12_fresh 22 = .ok (.goto 22, 3) := by decide +kernel
theorem dX12_fresh_25 : decode cX12_fresh 25 = .ok (.aload_n 1, 1) := by decide +kernel
theorem dX12_fresh_26 : decode cX12_fresh 26 = .ok (.iload_n 2, 1) := by decide +kernel
theorem dX12_fresh_27 : decode cX12_fresh 27 = .ok (.iload_n 3, 1) := by decide +kernel
theorem dX12_fresh_28 : decode cX12_fresh 28 = .ok (.aload_n 0, 1) := by decide +kernel
theorem dX12_fresh_29 : decode cX12_fresh 29 = .ok (.getfield 165, 3) := by decide +kernel
theorem dX12_fresh_32 : decode cX12_fresh 32 = .ok (.invokestatic 202, 3) := by decide +kernel
theorem dX12_fresh_35 : decode cX12_fresh 35 = .ok (.iconst (-1), 1) := by decide +kernel
theorem dX12_fresh_36 : decode cX12_fresh 36 = .ok (.if_icmp .eq 8, 3) := by decide +kernel
theorem dX12_fresh_39 : decode cX12_fresh 39 = .ok (.aload_n 0, 1) := by decide +kernel
theorem dX12_fresh_40 : decode cX12_fresh 40 = .ok (.iconst 3, 1) := by decide +kernel
theorem dX12_fresh_41 : decode cX12_fresh 41 = .ok (.invokevirtual 199, 3) := by decide +kernel
theorem dX12_fresh_44 : decode cX12_fresh 44 = .ok (.aload_n 0, 1) := by decide +kernel
theorem dX12_fresh_45 : decode cX12_fresh 45 = .ok (.getfield 190, 3) := by decide +kernel
theorem dX12_fresh_48 : decode cX12_fresh 48 = .ok (.ifCond .eq 5, 3) := by decide +kernel
theorem dX12_fresh_51 : decode cX12_fresh 51 = .ok (.iconst 0, 1) := by decide +kernel
theorem dX12_fresh_52 : decode cX12_fresh 52 = .ok (.ireturn, 1) := by decide +kernel
theorem dX12_fresh_53 : decode cX12_fresh 53 = .ok (.aload_n 0, 1) := by decide +kernel
theorem dX12_fresh_54 : decode cX12_fresh 54 = .ok (.getfield 165, 3) := by decide +kernel
theorem dX12_fresh_57 : decode cX12_fresh 57 = .ok (.istore 4, 2) := by decide +kernel
theorem dX12_fresh_59 : decode cX12_fresh 59 = .ok (.aload_n 0, 1) := by decide +kernel
theorem dX12_fresh_60 : decode cX12_fresh 60 = .ok (.invokevirtual 196, 3) := by decide +kernel
theorem dX12_fresh_63 : decode cX12_fresh 63 = .ok (.iload 4, 2) := by decide +kernel
theorem dX12_fresh_65 : decode cX12_fresh 65 = .ok (.ireturn, 1) := by decide +kernel
theorem dX12_fresher_0 : decode cX12_fresher 0 = .ok (.aload_n 0, 1) := by decide +kernel
theorem dX12_fresher_1 : decode cX12_fresher 1 = .ok (.getfield 13, 3) := by decide +kernel
theorem dX12_fresher_4 : decode cX12_fresher 4 = .ok (.bipush 7, 2) := by decide +kernel
theorem dX12_fresher_6 : decode cX12_fresher 6 = .ok (.iload_n 1, 1) := by decide +kernel
theorem dX12_fresher_7 : decode cX12_fresher 7 = .ok (.iadd, 1) := by decide +kernel
theorem dX12_fresher_8 : decode cX12_fresher 8 = .ok (.iaload, 1) := by decide +kernel
theorem dX12_fresher_9 : decode cX12_fresher 9 = .ok (.ireturn, 1) := by decide +kernel
theorem dX12_reads_0 : decode cX12_reads 0 = .ok (.aload_n 0, 1) := by decide +kernel
theorem dX12_reads_1 : decode cX12_reads 1 = .ok (.getfield 13, 3) := by decide +kernel
theorem dX12_reads_4 : decode cX12_reads 4 = .ok (.bipush 7, 2) := by decide +kernel
theorem dX12_reads_6 : decode cX12_reads 6 = .ok (.iload_n 1, 1) := by decide +kernel
theorem dX12_reads_7 : decode cX12_reads 7 = .ok (.iadd, 1) := by decide +kernel
theorem dX12_reads_8 : decode cX12_reads 8 = .ok (.iload_n 2, 1) := by decide +kernel
theorem dX12_reads_9 : decode cX12_reads 9 = .ok (.iastore, 1) := by decide +kernel
theorem dX12_reads_10 : decode cX12_reads 10 = .ok (.return_, 1) := by decide +kernel
theorem dX12_toldAhead_0 : decode cX12_toldAhead 0 = .ok (.aload_n 0, 1) := by decide +kernel
theorem dX12_toldAhead_1 : decode cX12_toldAhead 1 = .ok (.getfield 190, 3) := by decide +kernel
theorem dX12_toldAhead_4 : decode cX12_toldAhead 4 = .ok (.ifCond .eq 5, 3) := by decide +kernel
theorem dX12_toldAhead_7 : decode cX12_toldAhead 7 = .ok (.iconst 0, 1) := by decide +kernel
theorem dX12_toldAhead_8 : decode cX12_toldAhead 8 = .ok (.ireturn, 1) := by decide +kernel
theorem dX12_toldAhead_9 : decode cX12_toldAhead 9 = .ok (.aload_n 0, 1) := by decide +kernel
theorem dX12_toldAhead_10 : decode cX12_toldAhead 10 = .ok (.getfield 155, 3) := by decide +kernel
theorem dX12_toldAhead_13 : decode cX12_toldAhead 13 = .ok (.iconst 1, 1) := by decide +kernel
theorem dX12_toldAhead_14 : decode cX12_toldAhead 14 = .ok (.if_icmp .eq 8, 3) := by decide +kernel
theorem dX12_toldAhead_17 : decode cX12_toldAhead 17 = .ok (.aload_n 0, 1) := by decide +kernel
theorem dX12_toldAhead_18 : decode cX12_toldAhead 18 = .ok (.iconst 1, 1) := by decide +kernel
theorem dX12_toldAhead_19 : decode cX12_toldAhead 19 = .ok (.invokevirtual 199, 3) := by decide +kernel
theorem dX12_toldAhead_22 : decode cX12_toldAhead 22 = .ok (.aload_n 0, 1) := by decide +kernel
theorem dX12_toldAhead_23 : decode cX12_toldAhead 23 = .ok (.getfield 190, 3) := by decide +kernel
theorem dX12_toldAhead_26 : decode cX12_toldAhead 26 = .ok (.ifCond .ne 16, 3) := by decide +kernel
theorem dX12_toldAhead_29 : decode cX12_toldAhead 29 = .ok (.aload_n 1, 1) := by decide +kernel
theorem dX12_toldAhead_30 : decode cX12_toldAhead 30 = .ok (.iload_n 2, 1) := by decide +kernel
theorem dX12_toldAhead_31 : decode cX12_toldAhead 31 = .ok (.iload_n 3, 1) := by decide +kernel
theorem dX12_toldAhead_32 : decode cX12_toldAhead 32 = .ok (.aload_n 0, 1) := by decide +kernel
theorem dX12_toldAhead_33 : decode cX12_toldAhead 33 = .ok (.getfield 165, 3) := by decide +kernel
theorem dX12_toldAhead_36 : decode cX12_toldAhead 36 = .ok (.invokestatic 202, 3) := by decide +kernel
theorem dX12_toldAhead_39 : decode cX12_toldAhead 39 = .ok (.goto 4, 3) := by decide +kernel
theorem dX12_toldAhead_42 : decode cX12_toldAhead 42 = .ok (.iconst 0, 1) := by decide +kernel
theorem dX12_toldAhead_43 : decode cX12_toldAhead 43 = .ok (.istore 4, 2) := by decide +kernel
theorem dX12_toldAhead_45 : decode cX12_toldAhead 45 = .ok (.aload_n 0, 1) := by decide +kernel
theorem dX12_toldAhead_46 : decode cX12_toldAhead 46 = .ok (.getfield 190, 3) := by decide +kernel
theorem dX12_toldAhead_49 : decode cX12_toldAhead 49 = .ok (.ifCond .ne 14, 3) := by decide +kernel
theorem dX12_toldAhead_52 : decode cX12_toldAhead 52 = .ok (.iload 4, 2) := by decide +kernel
theorem dX12_toldAhead_54 : decode cX12_toldAhead 54 = .ok (.iconst (-1), 1) := by decide +kernel
theorem dX12_toldAhead_55 : decode cX12_toldAhead 55 = .ok (.if_icmp .ne 8, 3) := by decide +kernel
theorem dX12_toldAhead_58 : decode cX12_toldAhead 58 = .ok (.aload_n 0, 1) := by decide +kernel
theorem dX12_toldAhead_59 : decode cX12_toldAhead 59 = .ok (.iconst 4, 1) := by decide +kernel
theorem dX12_toldAhead_60 : decode cX12_toldAhead 60 = .ok (.invokevirtual 199, 3) := by decide +kernel
theorem dX12_toldAhead_63 : decode cX12_toldAhead 63 = .ok (.aload_n 0, 1) := by decide +kernel
theorem dX12_toldAhead_64 : decode cX12_toldAhead 64 = .ok (.invokevirtual 206, 3) := by decide +kernel
theorem dX12_toldAhead_67 : decode cX12_toldAhead 67 = .ok (.aload_n 0, 1) := by decide +kernel
theorem dX12_toldAhead_68 : decode cX12_toldAhead 68 = .ok (.getfield 190, 3) := by decide +kernel
theorem dX12_toldAhead_71 : decode cX12_toldAhead 71 = .ok (.ifCond .eq 7, 3) := by decide +kernel
theorem dX12_toldAhead_74 : decode cX12_toldAhead 74 = .ok (.iconst 0, 1) := by decide +kernel
theorem dX12_toldAhead_75 : decode cX12_toldAhead 75 = .ok (.goto 5, 3) := by decide +kernel
theorem dX12_toldAhead_78 : decode cX12_toldAhead 78 = .ok (.iload 4, 2) := by decide +kernel
theorem dX12_toldAhead_80 : decode cX12_toldAhead 80 = .ok (.ireturn, 1) := by decide +kernel
theorem dX12_isFull_0 : decode cX12_isFull 0 = .ok (.iload_n 1, 1) := by decide +kernel
theorem dX12_isFull_1 : decode cX12_isFull 1 = .ok (.iconst 1, 1) := by decide +kernel
theorem dX12_isFull_2 : decode cX12_isFull 2 = .ok (.if_icmp .ne 12, 3) := by decide +kernel
theorem dX12_isFull_5 : decode cX12_isFull 5 = .ok (.aload_n 0, 1) := by decide +kernel
theorem dX12_isFull_6 : decode cX12_isFull 6 = .ok (.iconst 1, 1) := by decide +kernel
theorem dX12_isFull_7 : decode cX12_isFull 7 = .ok (.invokevirtual 209, 3) := by decide +kernel
theorem dX12_isFull_10 : decode cX12_isFull 10 = .ok (.iconst 4, 1) := by decide +kernel
theorem dX12_isFull_11 : decode cX12_isFull 11 = .ok (.if_icmp .eq 33, 3) := by decide +kernel
theorem dX12_isFull_14 : decode cX12_isFull 14 = .ok (.iload_n 1, 1) := by decide +kernel
theorem dX12_isFull_15 : decode cX12_isFull 15 = .ok (.iconst 2, 1) := by decide +kernel
theorem dX12_isFull_16 : decode cX12_isFull 16 = .ok (.if_icmp .ne 13, 3) := by decide +kernel
theorem dX12_isFull_19 : decode cX12_isFull 19 = .ok (.aload_n 0, 1) := by decide +kernel
theorem dX12_isFull_20 : decode cX12_isFull 20 = .ok (.iconst 2, 1) := by decide +kernel
theorem dX12_isFull_21 : decode cX12_isFull 21 = .ok (.invokevirtual 209, 3) := by decide +kernel
theorem dX12_isFull_24 : decode cX12_isFull 24 = .ok (.bipush 6, 2) := by decide +kernel
theorem dX12_isFull_26 : decode cX12_isFull 26 = .ok (.if_icmp .eq 18, 3) := by decide +kernel
theorem dX12_isFull_29 : decode cX12_isFull 29 = .ok (.iload_n 1, 1) := by decide +kernel
theorem dX12_isFull_30 : decode cX12_isFull 30 = .ok (.iconst 3, 1) := by decide +kernel
theorem dX12_isFull_31 : decode cX12_isFull 31 = .ok (.if_icmp .ne 17, 3) := by decide +kernel
theorem dX12_isFull_34 : decode cX12_isFull 34 = .ok (.aload_n 0, 1) := by decide +kernel
theorem dX12_isFull_35 : decode cX12_isFull 35 = .ok (.iconst 3, 1) := by decide +kernel
theorem dX12_isFull_36 : decode cX12_isFull 36 = .ok (.invokevirtual 209, 3) := by decide +kernel
theorem dX12_isFull_39 : decode cX12_isFull 39 = .ok (.bipush 12, 2) := by decide +kernel
theorem dX12_isFull_41 : decode cX12_isFull 41 = .ok (.if_icmp .ne 7, 3) := by decide +kernel
theorem dX12_isFull_44 : decode cX12_isFull 44 = .ok (.iconst 1, 1) := by decide +kernel
theorem dX12_isFull_45 : decode cX12_isFull 45 = .ok (.goto 4, 3) := by decide +kernel
theorem dX12_isFull_48 : decode cX12_isFull 48 = .ok (.iconst 0, 1) := by decide +kernel
theorem dX12_isFull_49 : decode cX12_isFull 49 = .ok (.ireturn, 1) := by decide +kernel
theorem dX12_line_0 : decode cX12_line 0 = .ok (.aload_n 0, 1) := by decide +kernel
theorem dX12_line_1 : decode cX12_line 1 = .ok (.getfield 155, 3) := by decide +kernel
theorem dX12_line_4 : decode cX12_line 4 = .ok (.ifCond .ne 26, 3) := by decide +kernel
theorem dX12_line_7 : decode cX12_line 7 = .ok (.aload_n 0, 1) := by decide +kernel
theorem dX12_line_8 : decode cX12_line 8 = .ok (.getfield 165, 3) := by decide +kernel
theorem dX12_line_11 : decode cX12_line 11 = .ok (.bipush 7, 2) := by decide +kernel
theorem dX12_line_13 : decode cX12_line 13 = .ok (.if_icmp .gt 17, 3) := by decide +kernel
theorem dX12_line_16 : decode cX12_line 16 = .ok (.aload_n 0, 1) := by decide +kernel
theorem dX12_line_17 : decode cX12_line 17 = .ok (.getfield 165, 3) := by decide +kernel
theorem dX12_line_20 : decode cX12_line 20 = .ok (.ifCond .ne 16, 3) := by decide +kernel
theorem dX12_line_23 : decode cX12_line 23 = .ok (.aload_n 0, 1) := by decide +kernel
theorem dX12_line_24 : decode cX12_line 24 = .ok (.getfield 213, 3) := by decide +kernel
theorem dX12_line_27 : decode cX12_line 27 = .ok (.ifCond .le 9, 3) := by decide +kernel
theorem dX12_line_30 : decode cX12_line 30 = .ok (.aload_n 0, 1) := by decide +kernel
theorem dX12_line_31 : decode cX12_line 31 = .ok (.iconst 1, 1) := by decide +kernel
theorem dX12_line_32 : decode cX12_line 32 = .ok (.invokevirtual 199, 3) := by decide +kernel
theorem dX12_line_35 : decode cX12_line 35 = .ok (.return_, 1) := by decide +kernel
theorem dX12_line_36 : decode cX12_line 36 = .ok (.aload_n 0, 1) := by decide +kernel
theorem dX12_line_37 : decode cX12_line 37 = .ok (.getfield 165, 3) := by decide +kernel
theorem dX12_line_40 : decode cX12_line 40 = .ok (.istore_n 1, 1) := by decide +kernel
theorem dX12_line_41 : decode cX12_line 41 = .ok (.aload_n 0, 1) := by decide +kernel
theorem dX12_line_42 : decode cX12_line 42 = .ok (.iload_n 1, 1) := by decide +kernel
theorem dX12_line_43 : decode cX12_line 43 = .ok (.invokevirtual 216, 3) := by decide +kernel
theorem dX12_line_46 : decode cX12_line 46 = .ok (.ifCond .eq 11, 3) := by decide +kernel
theorem dX12_line_49 : decode cX12_line 49 = .ok (.aload_n 0, 1) := by decide +kernel
theorem dX12_line_50 : decode cX12_line 50 = .ok (.iconst 2, 1) := by decide +kernel
theorem dX12_line_51 : decode cX12_line 51 = .ok (.invokevirtual 199, 3) := by decide +kernel
theorem dX12_line_54 : decode cX12_line 54 = .ok (.goto 31, 3) := by decide +kernel
theorem dX12_line_57 : decode cX12_line 57 = .ok (.iload_n 1, 1) := by decide +kernel
theorem dX12_line_58 : decode cX12_line 58 = .ok (.iconst 5, 1) := by decide +kernel
theorem dX12_line_59 : decode cX12_line 59 = .ok (.if_icmp .eq 9, 3) := by decide +kernel
theorem dX12_line_62 : decode cX12_line 62 = .ok (.iload_n 1, 1) := by decide +kernel
theorem dX12_line_63 : decode cX12_line 63 = .ok (.bipush 6, 2) := by decide +kernel
theorem dX12_line_65 : decode cX12_line 65 = .ok (.if_icmp .ne 20, 3) := by decide +kernel
theorem dX12_line_68 : decode cX12_line 68 = .ok (.aload_n 0, 1) := by decide +kernel
theorem dX12_line_69 : decode cX12_line 69 = .ok (.getfield 219, 3) := by decide +kernel
theorem dX12_line_72 : decode cX12_line 72 = .ok (.iload_n 1, 1) := by decide +kernel
theorem dX12_line_73 : decode cX12_line 73 = .ok (.ishr, 1) := by decide +kernel
theorem dX12_line_74 : decode cX12_line 74 = .ok (.iconst 1, 1) := by decide +kernel
theorem dX12_line_75 : decode cX12_line 75 = .ok (.iand, 1) := by decide +kernel
theorem dX12_line_76 : decode cX12_line 76 = .ok (.iconst 1, 1) := by decide +kernel
theorem dX12_line_77 : decode cX12_line 77 = .ok (.if_icmp .ne 8, 3) := by decide +kernel
theorem dX12_line_80 : decode cX12_line 80 = .ok (.aload_n 0, 1) := by decide +kernel
theorem dX12_line_81 : decode cX12_line 81 = .ok (.iconst 3, 1) := by decide +kernel
theorem dX12_line_82 : decode cX12_line 82 = .ok (.invokevirtual 199, 3) := by decide +kernel
theorem dX12_line_85 : decode cX12_line 85 = .ok (.aload_n 0, 1) := by decide +kernel
theorem dX12_line_86 : decode cX12_line 86 = .ok (.getfield 190, 3) := by decide +kernel
theorem dX12_line_89 : decode cX12_line 89 = .ok (.ifCond .eq 4, 3) := by decide +kernel
theorem dX12_line_92 : decode cX12_line 92 = .ok (.return_, 1) := by decide +kernel
theorem dX12_line_93 : decode cX12_line 93 = .ok (.aload_n 0, 1) := by decide +kernel
theorem dX12_line_94 : decode cX12_line 94 = .ok (.dup, 1) := by decide +kernel
theorem dX12_line_95 : decode cX12_line 95 = .ok (.getfield 219, 3) := by decide +kernel
theorem dX12_line_98 : decode cX12_line 98 = .ok (.iconst 1, 1) := by decide +kernel
theorem dX12_line_99 : decode cX12_line 99 = .ok (.iload_n 1, 1) := by decide +kernel
theorem dX12_line_100 : decode cX12_line 100 = .ok (.ishl, 1) := by decide +kernel
theorem dX12_line_101 : decode cX12_line 101 = .ok (.ior, 1) := by decide +kernel
theorem dX12_line_102 : decode cX12_line 102 = .ok (.putfield 219, 3) := by decide +kernel
theorem dX12_line_105 : decode cX12_line 105 = .ok (.aload_n 0, 1) := by decide +kernel
theorem dX12_line_106 : decode cX12_line 106 = .ok (.invokevirtual 196, 3) := by decide +kernel
theorem dX12_line_109 : decode cX12_line 109 = .ok (.iload_n 1, 1) := by decide +kernel
theorem dX12_line_110 : decode cX12_line 110 = .ok (.tableswitch 350 0 6 #[42, 57, 64, 135, 225, 320, 335], 42) := by decide +kernel
theorem dX12_line_152 : decode cX12_line 152 = .ok (.aload_n 0, 1) := by decide +kernel
theorem dX12_line_153 : decode cX12_line 153 = .ok (.iconst 0, 1) := by decide +kernel
theorem dX12_line_154 : decode cX12_line 154 = .ok (.aload_n 0, 1) := by decide +kernel
theorem dX12_line_155 : decode cX12_line 155 = .ok (.iconst 5, 1) := by decide +kernel
theorem dX12_line_156 : decode cX12_line 156 = .ok (.bipush 40, 2) := by decide +kernel
theorem dX12_line_158 : decode cX12_line 158 = .ok (.invokevirtual 222, 3) := by decide +kernel
theorem dX12_line_161 : decode cX12_line 161 = .ok (.invokevirtual 226, 3) := by decide +kernel
theorem dX12_line_164 : decode cX12_line 164 = .ok (.goto 300, 3) := by decide +kernel
theorem dX12_line_167 : decode cX12_line 167 = .ok (.aload_n 0, 1) := by decide +kernel
theorem dX12_line_168 : decode cX12_line 168 = .ok (.invokevirtual 230, 3) := by decide +kernel
theorem dX12_line_171 : decode cX12_line 171 = .ok (.goto 293, 3) := by decide +kernel
theorem dX12_line_174 : decode cX12_line 174 = .ok (.bipush 6, 2) := by decide +kernel
theorem dX12_line_176 : decode cX12_line 176 = .ok (.aload_n 0, 1) := by decide +kernel
theorem dX12_line_177 : decode cX12_line 177 = .ok (.iconst 2, 1) := by decide +kernel
theorem dX12_line_178 : decode cX12_line 178 = .ok (.invokevirtual 209, 3) := by decide +kernel
theorem dX12_line_181 : decode cX12_line 181 = .ok (.iadd, 1) := by decide +kernel
theorem dX12_line_182 : decode cX12_line 182 = .ok (.istore_n 2, 1) := by decide +kernel
theorem dX12_line_183 : decode cX12_line 183 = .ok (.aload_n 0, 1) := by decide +kernel
theorem dX12_line_184 : decode cX12_line 184 = .ok (.getfield 28, 3) := by decide +kernel
theorem dX12_line_187 : decode cX12_line 187 = .ok (.iload_n 2, 1) := by decide +kernel
theorem dX12_line_188 : decode cX12_line 188 = .ok (.aload_n 0, 1) := by decide +kernel
theorem dX12_line_189 : decode cX12_line 189 = .ok (.aload_n 0, 1) := by decide +kernel
theorem dX12_line_190 : decode cX12_line 190 = .ok (.getfield 28, 3) := by decide +kernel
theorem dX12_line_193 : decode cX12_line 193 = .ok (.bipush 6, 2) := by decide +kernel
theorem dX12_line_195 : decode cX12_line 195 = .ok (.aload_n 0, 1) := by decide +kernel
theorem dX12_line_196 : decode cX12_line 196 = .ok (.iconst 2, 1) := by decide +kernel
theorem dX12_line_197 : decode cX12_line 197 = .ok (.invokevirtual 209, 3) := by decide +kernel
theorem dX12_line_200 : decode cX12_line 200 = .ok (.invokevirtual 233, 3) := by decide +kernel
theorem dX12_line_203 : decode cX12_line 203 = .ok (.iastore, 1) := by decide +kernel
theorem dX12_line_204 : decode cX12_line 204 = .ok (.aload_n 0, 1) := by decide +kernel
theorem dX12_line_205 : decode cX12_line 205 = .ok (.getfield 31, 3) := by decide +kernel
theorem dX12_line_208 : decode cX12_line 208 = .ok (.iload_n 2, 1) := by decide +kernel
theorem dX12_line_209 : decode cX12_line 209 = .ok (.aload_n 0, 1) := by decide +kernel
theorem dX12_line_210 : decode cX12_line 210 = .ok (.iconst 1, 1) := by decide +kernel
theorem dX12_line_211 : decode cX12_line 211 = .ok (.bipush 30, 2) := by decide +kernel
theorem dX12_line_213 : decode cX12_line 213 = .ok (.invokevirtual 222, 3) := by decide +kernel
theorem dX12_line_216 : decode cX12_line 216 = .ok (.iastore, 1) := by decide +kernel
theorem dX12_line_217 : decode cX12_line 217 = .ok (.aload_n 0, 1) := by decide +kernel
theorem dX12_line_218 : decode cX12_line 218 = .ok (.getfield 34, 3) := by decide +kernel
theorem dX12_line_221 : decode cX12_line 221 = .ok (.iload_n 2, 1) := by decide +kernel
theorem dX12_line_222 : decode cX12_line 222 = .ok (.aload_n 0, 1) := by decide +kernel
theorem dX12_line_223 : decode cX12_line 223 = .ok (.iconst 0, 1) := by decide +kernel
theorem dX12_line_224 : decode cX12_line 224 = .ok (.bipush 9, 2) := by decide +kernel
theorem dX12_line_226 : decode cX12_line 226 = .ok (.invokevirtual 222, 3) := by decide +kernel
theorem dX12_line_229 : decode cX12_line 229 = .ok (.iastore, 1) := by decide +kernel
theorem dX12_line_230 : decode cX12_line 230 = .ok (.aload_n 0, 1) := by decide +kernel
theorem dX12_line_231 : decode cX12_line 231 = .ok (.iconst 2, 1) := by decide +kernel
theorem dX12_line_232 : decode cX12_line 232 = .ok (.aload_n 0, 1) := by decide +kernel
theorem dX12_line_233 : decode cX12_line 233 = .ok (.iconst 2, 1) := by decide +kernel
theorem dX12_line_234 : decode cX12_line 234 = .ok (.invokevirtual 209, 3) := by decide +kernel
theorem dX12_line_237 : decode cX12_line 237 = .ok (.iconst 1, 1) := by decide +kernel
theorem dX12_line_238 : decode cX12_line 238 = .ok (.iadd, 1) := by decide +kernel
theorem dX12_line_239 : decode cX12_line 239 = .ok (.invokevirtual 226, 3) := by decide +kernel
theorem dX12_line_242 : decode cX12_line 242 = .ok (.goto 222, 3) := by decide +kernel
theorem dX12_line_245 : decode cX12_line 245 = .ok (.bipush 12, 2) := by decide +kernel
theorem dX12_line_247 : decode cX12_line 247 = .ok (.aload_n 0, 1) := by decide +kernel
theorem dX12_line_248 : decode cX12_line 248 = .ok (.iconst 3, 1) := by decide +kernel
theorem dX12_line_249 : decode cX12_line 249 = .ok (.invokevirtual 209, 3) := by decide +kernel
theorem dX12_line_252 : decode cX12_line 252 = .ok (.iadd, 1) := by decide +kernel
theorem dX12_line_253 : decode cX12_line 253 = .ok (.istore_n 3, 1) := by decide +kernel
theorem dX12_line_254 : decode cX12_line 254 = .ok (.aload_n 0, 1) := by decide +kernel
theorem dX12_line_255 : decode cX12_line 255 = .ok (.getfield 37, 3) := by decide +kernel
theorem dX12_line_258 : decode cX12_line 258 = .ok (.iload_n 3, 1) := by decide +kernel
theorem dX12_line_259 : decode cX12_line 259 = .ok (.aload_n 0, 1) := by decide +kernel
theorem dX12_line_260 : decode cX12_line 260 = .ok (.aload_n 0, 1) := by decide +kernel
theorem dX12_line_261 : decode cX12_line 261 = .ok (.getfield 16, 3) := by decide +kernel
theorem dX12_line_264 : decode cX12_line 264 = .ok (.iconst 4, 1) := by decide +kernel
theorem dX12_line_265 : decode cX12_line 265 = .ok (.aload_n 0, 1) := by decide +kernel
theorem dX12_line_266 : decode cX12_line 266 = .ok (.iconst 1, 1) := by decide +kernel
theorem dX12_line_267 : decode cX12_line 267 = .ok (.invokevirtual 209, 3) := by decide +kernel
theorem dX12_line_270 : decode cX12_line 270 = .ok (.invokevirtual 237, 3) := by decide +kernel
theorem dX12_line_273 : decode cX12_line 273 = .ok (.iastore, 1) := by decide +kernel
theorem dX12_line_274 : decode cX12_line 274 = .ok (.aload_n 0, 1) := by decide +kernel
theorem dX12_line_275 : decode cX12_line 275 = .ok (.getfield 40, 3) := by decide +kernel
theorem dX12_line_278 : decode cX12_line 278 = .ok (.iload_n 3, 1) := by decide +kernel
theorem dX12_line_279 : decode cX12_line 279 = .ok (.aload_n 0, 1) := by decide +kernel
theorem dX12_line_280 : decode cX12_line 280 = .ok (.aload_n 0, 1) := by decide +kernel
theorem dX12_line_281 : decode cX12_line 281 = .ok (.getfield 28, 3) := by decide +kernel
theorem dX12_line_284 : decode cX12_line 284 = .ok (.bipush 6, 2) := by decide +kernel
theorem dX12_line_286 : decode cX12_line 286 = .ok (.aload_n 0, 1) := by decide +kernel
theorem dX12_line_287 : decode cX12_line 287 = .ok (.iconst 2, 1) := by decide +kernel
theorem dX12_line_288 : decode cX12_line 288 = .ok (.invokevirtual 209, 3) := by decide +kernel
theorem dX12_line_291 : decode cX12_line 291 = .ok (.invokevirtual 237, 3) := by decide +kernel
theorem dX12_line_294 : decode cX12_line 294 = .ok (.iastore, 1) := by decide +kernel
theorem dX12_line_295 : decode cX12_line 295 = .ok (.aload_n 0, 1) := by decide +kernel
theorem dX12_line_296 : decode cX12_line 296 = .ok (.getfield 43, 3) := by decide +kernel
theorem dX12_line_299 : decode cX12_line 299 = .ok (.iload_n 3, 1) := by decide +kernel
theorem dX12_line_300 : decode cX12_line 300 = .ok (.aload_n 0, 1) := by decide +kernel
theorem dX12_line_301 : decode cX12_line 301 = .ok (.iconst 0, 1) := by decide +kernel
theorem dX12_line_302 : decode cX12_line 302 = .ok (.iconst 3, 1) := by decide +kernel
theorem dX12_line_303 : decode cX12_line 303 = .ok (.invokevirtual 222, 3) := by decide +kernel
theorem dX12_line_306 : decode cX12_line 306 = .ok (.iastore, 1) := by decide +kernel
theorem dX12_line_307 : decode cX12_line 307 = .ok (.aload_n 0, 1) := by decide +kernel
theorem dX12_line_308 : decode cX12_line 308 = .ok (.getfield 46, 3) := by decide +kernel
theorem dX12_line_311 : decode cX12_line 311 = .ok (.iload_n 3, 1) := by decide +kernel
theorem dX12_line_312 : decode cX12_line 312 = .ok (.aload_n 0, 1) := by decide +kernel
theorem dX12_line_313 : decode cX12_line 313 = .ok (.iconst 0, 1) := by decide +kernel
theorem dX12_line_314 : decode cX12_line 314 = .ok (.bipush 99, 2) := by decide +kernel
theorem dX12_line_316 : decode cX12_line 316 = .ok (.invokevirtual 222, 3) := by decide +kernel
theorem dX12_line_319 : decode cX12_line 319 = .ok (.iastore, 1) := by decide +kernel
theorem dX12_line_320 : decode cX12_line 320 = .ok (.aload_n 0, 1) := by decide +kernel
theorem dX12_line_321 : decode cX12_line 321 = .ok (.iconst 3, 1) := by decide +kernel
theorem dX12_line_322 : decode cX12_line 322 = .ok (.aload_n 0, 1) := by decide +kernel
theorem dX12_line_323 : decode cX12_line 323 = .ok (.iconst 3, 1) := by decide +kernel
theorem dX12_line_324 : decode cX12_line 324 = .ok (.invokevirtual 209, 3) := by decide +kernel
theorem dX12_line_327 : decode cX12_line 327 = .ok (.iconst 1, 1) := by decide +kernel
theorem dX12_line_328 : decode cX12_line 328 = .ok (.iadd, 1) := by decide +kernel
theorem dX12_line_329 : decode cX12_line 329 = .ok (.invokevirtual 226, 3) := by decide +kernel
theorem dX12_line_332 : decode cX12_line 332 = .ok (.goto 132, 3) := by decide +kernel
theorem dX12_line_335 : decode cX12_line 335 = .ok (.aload_n 0, 1) := by decide +kernel
theorem dX12_line_336 : decode cX12_line 336 = .ok (.aload_n 0, 1) := by decide +kernel
theorem dX12_line_337 : decode cX12_line 337 = .ok (.getfield 16, 3) := by decide +kernel
theorem dX12_line_340 : decode cX12_line 340 = .ok (.iconst 4, 1) := by decide +kernel
theorem dX12_line_341 : decode cX12_line 341 = .ok (.aload_n 0, 1) := by decide +kernel
theorem dX12_line_342 : decode cX12_line 342 = .ok (.iconst 1, 1) := by decide +kernel
theorem dX12_line_343 : decode cX12_line 343 = .ok (.invokevirtual 209, 3) := by decide +kernel
theorem dX12_line_346 : decode cX12_line 346 = .ok (.invokevirtual 237, 3) := by decide +kernel
theorem dX12_line_349 : decode cX12_line 349 = .ok (.istore 4, 2) := by decide +kernel
theorem dX12_line_351 : decode cX12_line 351 = .ok (.aload_n 0, 1) := by decide +kernel
theorem dX12_line_352 : decode cX12_line 352 = .ok (.getfield 190, 3) := by decide +kernel
theorem dX12_line_355 : decode cX12_line 355 = .ok (.ifCond .ne 43, 3) := by decide +kernel
theorem dX12_line_358 : decode cX12_line 358 = .ok (.aload_n 0, 1) := by decide +kernel
theorem dX12_line_359 : decode cX12_line 359 = .ok (.getfield 155, 3) := by decide +kernel
theorem dX12_line_362 : decode cX12_line 362 = .ok (.iconst 2, 1) := by decide +kernel
theorem dX12_line_363 : decode cX12_line 363 = .ok (.if_icmp .ne 35, 3) := by decide +kernel
theorem dX12_line_366 : decode cX12_line 366 = .ok (.aload_n 0, 1) := by decide +kernel
theorem dX12_line_367 : decode cX12_line 367 = .ok (.getfield 165, 3) := by decide +kernel
theorem dX12_line_370 : decode cX12_line 370 = .ok (.iconst 4, 1) := by decide +kernel
theorem dX12_line_371 : decode cX12_line 371 = .ok (.if_icmp .ge 27, 3) := by decide +kernel
theorem dX12_line_374 : decode cX12_line 374 = .ok (.aload_n 0, 1) := by decide +kernel
theorem dX12_line_375 : decode cX12_line 375 = .ok (.getfield 25, 3) := by decide +kernel
theorem dX12_line_378 : decode cX12_line 378 = .ok (.iconst 4, 1) := by decide +kernel
theorem dX12_line_379 : decode cX12_line 379 = .ok (.iconst 4, 1) := by decide +kernel
theorem dX12_line_380 : decode cX12_line 380 = .ok (.iload 4, 2) := by decide +kernel
theorem dX12_line_382 : decode cX12_line 382 = .ok (.iadd, 1) := by decide +kernel
theorem dX12_line_383 : decode cX12_line 383 = .ok (.imul, 1) := by decide +kernel
theorem dX12_line_384 : decode cX12_line 384 = .ok (.aload_n 0, 1) := by decide +kernel
theorem dX12_line_385 : decode cX12_line 385 = .ok (.getfield 165, 3) := by decide +kernel
theorem dX12_line_388 : decode cX12_line 388 = .ok (.iadd, 1) := by decide +kernel
theorem dX12_line_389 : decode cX12_line 389 = .ok (.iaload, 1) := by decide +kernel
theorem dX12_line_390 : decode cX12_line 390 = .ok (.ifCond .le 8, 3) := by decide +kernel
theorem dX12_line_393 : decode cX12_line 393 = .ok (.aload_n 0, 1) := by decide +kernel
theorem dX12_line_394 : decode cX12_line 394 = .ok (.iconst 3, 1) := by decide +kernel
theorem dX12_line_395 : decode cX12_line 395 = .ok (.invokevirtual 199, 3) := by decide +kernel
theorem dX12_line_398 : decode cX12_line 398 = .ok (.aload_n 0, 1) := by decide +kernel
theorem dX12_line_399 : decode cX12_line 399 = .ok (.iconst 0, 1) := by decide +kernel
theorem dX12_line_400 : decode cX12_line 400 = .ok (.iconst 3, 1) := by decide +kernel
theorem dX12_line_401 : decode cX12_line 401 = .ok (.invokevirtual 222, 3) := by decide +kernel
theorem dX12_line_404 : decode cX12_line 404 = .ok (.istore 5, 2) := by decide +kernel
theorem dX12_line_406 : decode cX12_line 406 = .ok (.aload_n 0, 1) := by decide +kernel
theorem dX12_line_407 : decode cX12_line 407 = .ok (.getfield 25, 3) := by decide +kernel
theorem dX12_line_410 : decode cX12_line 410 = .ok (.iconst 4, 1) := by decide +kernel
theorem dX12_line_411 : decode cX12_line 411 = .ok (.iconst 4, 1) := by decide +kernel
theorem dX12_line_412 : decode cX12_line 412 = .ok (.iload 4, 2) := by decide +kernel
theorem dX12_line_414 : decode cX12_line 414 = .ok (.iadd, 1) := by decide +kernel
theorem dX12_line_415 : decode cX12_line 415 = .ok (.imul, 1) := by decide +kernel
theorem dX12_line_416 : decode cX12_line 416 = .ok (.iload 5, 2) := by decide +kernel
theorem dX12_line_418 : decode cX12_line 418 = .ok (.iadd, 1) := by decide +kernel
theorem dX12_line_419 : decode cX12_line 419 = .ok (.aload_n 0, 1) := by decide +kernel
theorem dX12_line_420 : decode cX12_line 420 = .ok (.iconst 1, 1) := by decide +kernel
theorem dX12_line_421 : decode cX12_line 421 = .ok (.bipush 9, 2) := by decide +kernel
theorem dX12_line_423 : decode cX12_line 423 = .ok (.invokevirtual 222, 3) := by decide +kernel
theorem dX12_line_426 : decode cX12_line 426 = .ok (.iastore, 1) := by decide +kernel
theorem dX12_line_427 : decode cX12_line 427 = .ok (.goto 37, 3) := by decide +kernel
theorem dX12_line_430 : decode cX12_line 430 = .ok (.aload_n 0, 1) := by decide +kernel
theorem dX12_line_431 : decode cX12_line 431 = .ok (.iconst 4, 1) := by decide +kernel
theorem dX12_line_432 : decode cX12_line 432 = .ok (.aload_n 0, 1) := by decide +kernel
theorem dX12_line_433 : decode cX12_line 433 = .ok (.iconst 0, 1) := by decide +kernel
theorem dX12_line_434 : decode cX12_line 434 = .ok (.bipush 100, 2) := by decide +kernel
theorem dX12_line_436 : decode cX12_line 436 = .ok (.invokevirtual 222, 3) := by decide +kernel
theorem dX12_line_439 : decode cX12_line 439 = .ok (.invokevirtual 226, 3) := by decide +kernel
theorem dX12_line_442 : decode cX12_line 442 = .ok (.goto 22, 3) := by decide +kernel
theorem dX12_line_445 : decode cX12_line 445 = .ok (.aload_n 0, 1) := by decide +kernel
theorem dX12_line_446 : decode cX12_line 446 = .ok (.iconst 5, 1) := by decide +kernel
theorem dX12_line_447 : decode cX12_line 447 = .ok (.aload_n 0, 1) := by decide +kernel
theorem dX12_line_448 : decode cX12_line 448 = .ok (.iconst 0, 1) := by decide +kernel
theorem dX12_line_449 : decode cX12_line 449 = .ok (.ldc 174, 2) := by decide +kernel
theorem dX12_line_451 : decode cX12_line 451 = .ok (.invokevirtual 222, 3) := by decide +kernel
theorem dX12_line_454 : decode cX12_line 454 = .ok (.invokevirtual 226, 3) := by decide +kernel
theorem dX12_line_457 : decode cX12_line 457 = .ok (.goto 7, 3) := by decide +kernel
theorem dX12_line_460 : decode cX12_line 460 = .ok (.aload_n 0, 1) := by decide +kernel
theorem dX12_line_461 : decode cX12_line 461 = .ok (.invokevirtual 240, 3) := by decide +kernel
theorem dX12_line_464 : decode cX12_line 464 = .ok (.aload_n 0, 1) := by decide +kernel
theorem dX12_line_465 : decode cX12_line 465 = .ok (.getfield 190, 3) := by decide +kernel
theorem dX12_line_468 : decode cX12_line 468 = .ok (.ifCond .eq 4, 3) := by decide +kernel
theorem dX12_line_471 : decode cX12_line 471 = .ok (.return_, 1) := by decide +kernel
theorem dX12_line_472 : decode cX12_line 472 = .ok (.aload_n 0, 1) := by decide +kernel
theorem dX12_line_473 : decode cX12_line 473 = .ok (.bipush 59, 2) := by decide +kernel
theorem dX12_line_475 : decode cX12_line 475 = .ok (.invokevirtual 243, 3) := by decide +kernel
theorem dX12_line_478 : decode cX12_line 478 = .ok (.ifCond .ne 11, 3) := by decide +kernel
theorem dX12_line_481 : decode cX12_line 481 = .ok (.aload_n 0, 1) := by decide +kernel
theorem dX12_line_482 : decode cX12_line 482 = .ok (.iconst 1, 1) := by decide +kernel
theorem dX12_line_483 : decode cX12_line 483 = .ok (.invokevirtual 199, 3) := by decide +kernel
theorem dX12_line_486 : decode cX12_line 486 = .ok (.goto 7, 3) := by decide +kernel
theorem dX12_line_489 : decode cX12_line 489 = .ok (.aload_n 0, 1) := by decide +kernel
theorem dX12_line_490 : decode cX12_line 490 = .ok (.invokevirtual 196, 3) := by decide +kernel
theorem dX12_line_493 : decode cX12_line 493 = .ok (.aload_n 0, 1) := by decide +kernel
theorem dX12_line_494 : decode cX12_line 494 = .ok (.dup, 1) := by decide +kernel
theorem dX12_line_495 : decode cX12_line 495 = .ok (.getfield 213, 3) := by decide +kernel
theorem dX12_line_498 : decode cX12_line 498 = .ok (.iconst 1, 1) := by decide +kernel
theorem dX12_line_499 : decode cX12_line 499 = .ok (.iadd, 1) := by decide +kernel
theorem dX12_line_500 : decode cX12_line 500 = .ok (.putfield 213, 3) := by decide +kernel
theorem dX12_line_503 : decode cX12_line 503 = .ok (.return_, 1) := by decide +kernel
theorem dX12_parishLine_0 : decode cX12_parishLine 0 = .ok (.iconst 4, 1) := by decide +kernel
theorem dX12_parishLine_1 : decode cX12_parishLine 1 = .ok (.aload_n 0, 1) := by decide +kernel
theorem dX12_parishLine_2 : decode cX12_parishLine 2 = .ok (.iconst 1, 1) := by decide +kernel
theorem dX12_parishLine_3 : decode cX12_parishLine 3 = .ok (.invokevirtual 209, 3) := by decide +kernel
theorem dX12_parishLine_6 : decode cX12_parishLine 6 = .ok (.iadd, 1) := by decide +kernel
theorem dX12_parishLine_7 : decode cX12_parishLine 7 = .ok (.istore_n 1, 1) := by decide +kernel
theorem dX12_parishLine_8 : decode cX12_parishLine 8 = .ok (.aload_n 0, 1) := by decide +kernel
theorem dX12_parishLine_9 : decode cX12_parishLine 9 = .ok (.getfield 16, 3) := by decide +kernel
theorem dX12_parishLine_12 : decode cX12_parishLine 12 = .ok (.iload_n 1, 1) := by decide +kernel
theorem dX12_parishLine_13 : decode cX12_parishLine 13 = .ok (.aload_n 0, 1) := by decide +kernel
theorem dX12_parishLine_14 : decode cX12_parishLine 14 = .ok (.aload_n 0, 1) := by decide +kernel
theorem dX12_parishLine_15 : decode cX12_parishLine 15 = .ok (.getfield 16, 3) := by decide +kernel
theorem dX12_parishLine_18 : decode cX12_parishLine 18 = .ok (.iconst 4, 1) := by decide +kernel
theorem dX12_parishLine_19 : decode cX12_parishLine 19 = .ok (.aload_n 0, 1) := by decide +kernel
theorem dX12_parishLine_20 : decode cX12_parishLine 20 = .ok (.iconst 1, 1) := by decide +kernel
theorem dX12_parishLine_21 : decode cX12_parishLine 21 = .ok (.invokevirtual 209, 3) := by decide +kernel
theorem dX12_parishLine_24 : decode cX12_parishLine 24 = .ok (.invokevirtual 233, 3) := by decide +kernel
theorem dX12_parishLine_27 : decode cX12_parishLine 27 = .ok (.iastore, 1) := by decide +kernel
theorem dX12_parishLine_28 : decode cX12_parishLine 28 = .ok (.aload_n 0, 1) := by decide +kernel
theorem dX12_parishLine_29 : decode cX12_parishLine 29 = .ok (.getfield 19, 3) := by decide +kernel
theorem dX12_parishLine_32 : decode cX12_parishLine 32 = .ok (.iload_n 1, 1) := by decide +kernel
theorem dX12_parishLine_33 : decode cX12_parishLine 33 = .ok (.aload_n 0, 1) := by decide +kernel
theorem dX12_parishLine_34 : decode cX12_parishLine 34 = .ok (.iconst 0, 1) := by decide +kernel
theorem dX12_parishLine_35 : decode cX12_parishLine 35 = .ok (.aload_n 0, 1) := by decide +kernel
theorem dX12_parishLine_36 : decode cX12_parishLine 36 = .ok (.iconst 0, 1) := by decide +kernel
theorem dX12_parishLine_37 : decode cX12_parishLine 37 = .ok (.invokevirtual 209, 3) := by decide +kernel
theorem dX12_parishLine_40 : decode cX12_parishLine 40 = .ok (.iconst 1, 1) := by decide +kernel
theorem dX12_parishLine_41 : decode cX12_parishLine 41 = .ok (.isub, 1) := by decide +kernel
theorem dX12_parishLine_42 : decode cX12_parishLine 42 = .ok (.invokevirtual 222, 3) := by decide +kernel
theorem dX12_parishLine_45 : decode cX12_parishLine 45 = .ok (.iastore, 1) := by decide +kernel
theorem dX12_parishLine_46 : decode cX12_parishLine 46 = .ok (.iconst 4, 1) := by decide +kernel
theorem dX12_parishLine_47 : decode cX12_parishLine 47 = .ok (.istore_n 2, 1) := by decide +kernel
theorem dX12_parishLine_48 : decode cX12_parishLine 48 = .ok (.iload_n 2, 1) := by decide +kernel
theorem dX12_parishLine_49 : decode cX12_parishLine 49 = .ok (.iload_n 1, 1) := by decide +kernel
theorem dX12_parishLine_50 : decode cX12_parishLine 50 = .ok (.if_icmp .ge 57, 3) := by decide +kernel
theorem dX12_parishLine_53 : decode cX12_parishLine 53 = .ok (.aload_n 0, 1) := by decide +kernel
theorem dX12_parishLine_54 : decode cX12_parishLine 54 = .ok (.getfield 190, 3) := by decide +kernel
theorem dX12_parishLine_57 : decode cX12_parishLine 57 = .ok (.ifCond .ne 44, 3) := by decide +kernel
theorem dX12_parishLine_60 : decode cX12_parishLine 60 = .ok (.aload_n 0, 1) := by decide +kernel
theorem dX12_parishLine_61 : decode cX12_parishLine 61 = .ok (.getfield 155, 3) := by decide +kernel
theorem dX12_parishLine_64 : decode cX12_parishLine 64 = .ok (.iconst 2, 1) := by decide +kernel
theorem dX12_parishLine_65 : decode cX12_parishLine 65 = .ok (.if_icmp .ne 36, 3) := by decide +kernel
theorem dX12_parishLine_68 : decode cX12_parishLine 68 = .ok (.aload_n 0, 1) := by decide +kernel
theorem dX12_parishLine_69 : decode cX12_parishLine 69 = .ok (.getfield 19, 3) := by decide +kernel
theorem dX12_parishLine_72 : decode cX12_parishLine 72 = .ok (.iload_n 2, 1) := by decide +kernel
theorem dX12_parishLine_73 : decode cX12_parishLine 73 = .ok (.iaload, 1) := by decide +kernel
theorem dX12_parishLine_74 : decode cX12_parishLine 74 = .ok (.aload_n 0, 1) := by decide +kernel
theorem dX12_parishLine_75 : decode cX12_parishLine 75 = .ok (.getfield 19, 3) := by decide +kernel
theorem dX12_parishLine_78 : decode cX12_parishLine 78 = .ok (.iload_n 1, 1) := by decide +kernel
theorem dX12_parishLine_79 : decode cX12_parishLine 79 = .ok (.iaload, 1) := by decide +kernel
theorem dX12_parishLine_80 : decode cX12_parishLine 80 = .ok (.if_icmp .ne 21, 3) := by decide +kernel
theorem dX12_parishLine_83 : decode cX12_parishLine 83 = .ok (.aload_n 0, 1) := by decide +kernel
theorem dX12_parishLine_84 : decode cX12_parishLine 84 = .ok (.getfield 22, 3) := by decide +kernel
theorem dX12_parishLine_87 : decode cX12_parishLine 87 = .ok (.iload_n 2, 1) := by decide +kernel
theorem dX12_parishLine_88 : decode cX12_parishLine 88 = .ok (.iaload, 1) := by decide +kernel
theorem dX12_parishLine_89 : decode cX12_parishLine 89 = .ok (.aload_n 0, 1) := by decide +kernel
theorem dX12_parishLine_90 : decode cX12_parishLine 90 = .ok (.getfield 165, 3) := by decide +kernel
theorem dX12_parishLine_93 : decode cX12_parishLine 93 = .ok (.if_icmp .ne 8, 3) := by decide +kernel
theorem dX12_parishLine_96 : decode cX12_parishLine 96 = .ok (.aload_n 0, 1) := by decide +kernel
theorem dX12_parishLine_97 : decode cX12_parishLine 97 = .ok (.iconst 3, 1) := by decide +kernel
theorem dX12_parishLine_98 : decode cX12_parishLine 98 = .ok (.invokevirtual 199, 3) := by decide +kernel
theorem dX12_parishLine_101 : decode cX12_parishLine 101 = .ok (.iinc 2 1, 3) := by decide +kernel
theorem dX12_parishLine_104 : decode cX12_parishLine 104 = .ok (.goto (-56), 3) := by decide +kernel
theorem dX12_parishLine_107 : decode cX12_parishLine 107 = .ok (.aload_n 0, 1) := by decide +kernel
theorem dX12_parishLine_108 : decode cX12_parishLine 108 = .ok (.getfield 22, 3) := by decide +kernel
theorem dX12_parishLine_111 : decode cX12_parishLine 111 = .ok (.iload_n 1, 1) := by decide +kernel
theorem dX12_parishLine_112 : decode cX12_parishLine 112 = .ok (.aload_n 0, 1) := by decide +kernel
theorem dX12_parishLine_113 : decode cX12_parishLine 113 = .ok (.iconst 0, 1) := by decide +kernel
theorem dX12_parishLine_114 : decode cX12_parishLine 114 = .ok (.aload_n 0, 1) := by decide +kernel
theorem dX12_parishLine_115 : decode cX12_parishLine 115 = .ok (.iconst 0, 1) := by decide +kernel
theorem dX12_parishLine_116 : decode cX12_parishLine 116 = .ok (.invokevirtual 209, 3) := by decide +kernel
theorem dX12_parishLine_119 : decode cX12_parishLine 119 = .ok (.iconst 1, 1) := by decide +kernel
theorem dX12_parishLine_120 : decode cX12_parishLine 120 = .ok (.isub, 1) := by decide +kernel
theorem dX12_parishLine_121 : decode cX12_parishLine 121 = .ok (.invokevirtual 222, 3) := by decide +kernel
theorem dX12_parishLine_124 : decode cX12_parishLine 124 = .ok (.iastore, 1) := by decide +kernel
theorem dX12_parishLine_125 : decode cX12_parishLine 125 = .ok (.aload_n 0, 1) := by decide +kernel
theorem dX12_parishLine_126 : decode cX12_parishLine 126 = .ok (.iconst 1, 1) := by decide +kernel
theorem dX12_parishLine_127 : decode cX12_parishLine 127 = .ok (.aload_n 0, 1) := by decide +kernel
theorem dX12_parishLine_128 : decode cX12_parishLine 128 = .ok (.iconst 1, 1) := by decide +kernel
theorem dX12_parishLine_129 : decode cX12_parishLine 129 = .ok (.invokevirtual 209, 3) := by decide +kernel
theorem dX12_parishLine_132 : decode cX12_parishLine 132 = .ok (.iconst 1, 1) := by decide +kernel
theorem dX12_parishLine_133 : decode cX12_parishLine 133 = .ok (.iadd, 1) := by decide +kernel
theorem dX12_parishLine_134 : decode cX12_parishLine 134 = .ok (.invokevirtual 226, 3) := by decide +kernel
theorem dX12_parishLine_137 : decode cX12_parishLine 137 = .ok (.return_, 1) := by decide +kernel
theorem dX12_lawLine_0 : decode cX12_lawLine 0 = .ok (.aload_n 0, 1) := by decide +kernel
theorem dX12_lawLine_1 : decode cX12_lawLine 1 = .ok (.getfield 155, 3) := by decide +kernel
theorem dX12_lawLine_4 : decode cX12_lawLine 4 = .ok (.ifCond .ne 21, 3) := by decide +kernel
theorem dX12_lawLine_7 : decode cX12_lawLine 7 = .ok (.aload_n 0, 1) := by decide +kernel
theorem dX12_lawLine_8 : decode cX12_lawLine 8 = .ok (.getfield 165, 3) := by decide +kernel
theorem dX12_lawLine_11 : decode cX12_lawLine 11 = .ok (.bipush 8, 2) := by decide +kernel
theorem dX12_lawLine_13 : decode cX12_lawLine 13 = .ok (.if_icmp .lt 12, 3) := by decide +kernel
theorem dX12_lawLine_16 : decode cX12_lawLine 16 = .ok (.aload_n 0, 1) := by decide +kernel
theorem dX12_lawLine_17 : decode cX12_lawLine 17 = .ok (.getfield 165, 3) := by decide +kernel
theorem dX12_lawLine_20 : decode cX12_lawLine 20 = .ok (.bipush 10, 2) := by decide +kernel
theorem dX12_lawLine_22 : decode cX12_lawLine 22 = .ok (.if_icmp .le 8, 3) := by decide +kernel
theorem dX12_lawLine_25 : decode cX12_lawLine 25 = .ok (.aload_n 0, 1) := by decide +kernel
theorem dX12_lawLine_26 : decode cX12_lawLine 26 = .ok (.iconst 1, 1) := by decide +kernel
theorem dX12_lawLine_27 : decode cX12_lawLine 27 = .ok (.invokevirtual 199, 3) := by decide +kernel
theorem dX12_lawLine_30 : decode cX12_lawLine 30 = .ok (.aload_n 0, 1) := by decide +kernel
theorem dX12_lawLine_31 : decode cX12_lawLine 31 = .ok (.getfield 165, 3) := by decide +kernel
theorem dX12_lawLine_34 : decode cX12_lawLine 34 = .ok (.bipush 8, 2) := by decide +kernel
theorem dX12_lawLine_36 : decode cX12_lawLine 36 = .ok (.isub, 1) := by decide +kernel
theorem dX12_lawLine_37 : decode cX12_lawLine 37 = .ok (.istore_n 1, 1) := by decide +kernel
theorem dX12_lawLine_38 : decode cX12_lawLine 38 = .ok (.aload_n 0, 1) := by decide +kernel
theorem dX12_lawLine_39 : decode cX12_lawLine 39 = .ok (.getfield 190, 3) := by decide +kernel
theorem dX12_lawLine_42 : decode cX12_lawLine 42 = .ok (.ifCond .ne 23, 3) := by decide +kernel
theorem dX12_lawLine_45 : decode cX12_lawLine 45 = .ok (.aload_n 0, 1) := by decide +kernel
theorem dX12_lawLine_46 : decode cX12_lawLine 46 = .ok (.getfield 219, 3) := by decide +kernel
theorem dX12_lawLine_49 : decode cX12_lawLine 49 = .ok (.bipush 16, 2) := by decide +kernel
theorem dX12_lawLine_51 : decode cX12_lawLine 51 = .ok (.iload_n 1, 1) := by decide +kernel
theorem dX12_lawLine_52 : decode cX12_lawLine 52 = .ok (.iadd, 1) := by decide +kernel
theorem dX12_lawLine_53 : decode cX12_lawLine 53 = .ok (.ishr, 1) := by decide +kernel
theorem dX12_lawLine_54 : decode cX12_lawLine 54 = .ok (.iconst 1, 1) := by decide +kernel
theorem dX12_lawLine_55 : decode cX12_lawLine 55 = .ok (.iand, 1) := by decide +kernel
theorem dX12_lawLine_56 : decode cX12_lawLine 56 = .ok (.iconst 1, 1) := by decide +kernel
theorem dX12_lawLine_57 : decode cX12_lawLine 57 = .ok (.if_icmp .ne 8, 3) := by decide +kernel
theorem dX12_lawLine_60 : decode cX12_lawLine 60 = .ok (.aload_n 0, 1) := by decide +kernel
theorem dX12_lawLine_61 : decode cX12_lawLine 61 = .ok (.iconst 3, 1) := by decide +kernel
theorem dX12_lawLine_62 : decode cX12_lawLine 62 = .ok (.invokevirtual 199, 3) := by decide +kernel
theorem dX12_lawLine_65 : decode cX12_lawLine 65 = .ok (.aload_n 0, 1) := by decide +kernel
theorem dX12_lawLine_66 : decode cX12_lawLine 66 = .ok (.getfield 190, 3) := by decide +kernel
theorem dX12_lawLine_69 : decode cX12_lawLine 69 = .ok (.ifCond .eq 4, 3) := by decide +kernel
theorem dX12_lawLine_72 : decode cX12_lawLine 72 = .ok (.return_, 1) := by decide +kernel
theorem dX12_lawLine_73 : decode cX12_lawLine 73 = .ok (.aload_n 0, 1) := by decide +kernel
theorem dX12_lawLine_74 : decode cX12_lawLine 74 = .ok (.dup, 1) := by decide +kernel
theorem dX12_lawLine_75 : decode cX12_lawLine 75 = .ok (.getfield 219, 3) := by decide +kernel
theorem dX12_lawLine_78 : decode cX12_lawLine 78 = .ok (.iconst 1, 1) := by decide +kernel
theorem dX12_lawLine_79 : decode cX12_lawLine 79 = .ok (.bipush 16, 2) := by decide +kernel
theorem dX12_lawLine_81 : decode cX12_lawLine 81 = .ok (.iload_n 1, 1) := by decide +kernel
theorem dX12_lawLine_82 : decode cX12_lawLine 82 = .ok (.iadd, 1) := by decide +kernel
theorem dX12_lawLine_83 : decode cX12_lawLine 83 = .ok (.ishl, 1) := by decide +kernel
theorem dX12_lawLine_84 : decode cX12_lawLine 84 = .ok (.ior, 1) := by decide +kernel
theorem dX12_lawLine_85 : decode cX12_lawLine 85 = .ok (.putfield 219, 3) := by decide +kernel
theorem dX12_lawLine_88 : decode cX12_lawLine 88 = .ok (.aload_n 0, 1) := by decide +kernel
theorem dX12_lawLine_89 : decode cX12_lawLine 89 = .ok (.invokevirtual 196, 3) := by decide +kernel
theorem dX12_lawLine_92 : decode cX12_lawLine 92 = .ok (.aload_n 0, 1) := by decide +kernel
theorem dX12_lawLine_93 : decode cX12_lawLine 93 = .ok (.getfield 49, 3) := by decide +kernel
theorem dX12_lawLine_96 : decode cX12_lawLine 96 = .ok (.iconst 3, 1) := by decide +kernel
theorem dX12_lawLine_97 : decode cX12_lawLine 97 = .ok (.iload_n 1, 1) := by decide +kernel
theorem dX12_lawLine_98 : decode cX12_lawLine 98 = .ok (.iadd, 1) := by decide +kernel
theorem dX12_lawLine_99 : decode cX12_lawLine 99 = .ok (.aload_n 0, 1) := by decide +kernel
theorem dX12_lawLine_100 : decode cX12_lawLine 100 = .ok (.bipush 6, 2) := by decide +kernel
theorem dX12_lawLine_102 : decode cX12_lawLine 102 = .ok (.invokevirtual 209, 3) := by decide +kernel
theorem dX12_lawLine_105 : decode cX12_lawLine 105 = .ok (.iastore, 1) := by decide +kernel
theorem dX12_lawLine_106 : decode cX12_lawLine 106 = .ok (.aload_n 0, 1) := by decide +kernel
theorem dX12_lawLine_107 : decode cX12_lawLine 107 = .ok (.invokevirtual 246, 3) := by decide +kernel
theorem dX12_lawLine_110 : decode cX12_lawLine 110 = .ok (.aload_n 0, 1) := by decide +kernel
theorem dX12_lawLine_111 : decode cX12_lawLine 111 = .ok (.getfield 52, 3) := by decide +kernel
theorem dX12_lawLine_114 : decode cX12_lawLine 114 = .ok (.iconst 3, 1) := by decide +kernel
theorem dX12_lawLine_115 : decode cX12_lawLine 115 = .ok (.iload_n 1, 1) := by decide +kernel
theorem dX12_lawLine_116 : decode cX12_lawLine 116 = .ok (.iadd, 1) := by decide +kernel
theorem dX12_lawLine_117 : decode cX12_lawLine 117 = .ok (.aload_n 0, 1) := by decide +kernel
theorem dX12_lawLine_118 : decode cX12_lawLine 118 = .ok (.bipush 6, 2) := by decide +kernel
theorem dX12_lawLine_120 : decode cX12_lawLine 120 = .ok (.invokevirtual 209, 3) := by decide +kernel
theorem dX12_lawLine_123 : decode cX12_lawLine 123 = .ok (.iastore, 1) := by decide +kernel
theorem dX12_lawLine_124 : decode cX12_lawLine 124 = .ok (.return_, 1) := by decide +kernel
theorem dX12_puts_0 : decode cX12_puts 0 = .ok (.aload_n 0, 1) := by decide +kernel
theorem dX12_puts_1 : decode cX12_puts 1 = .ok (.getfield 190, 3) := by decide +kernel
theorem dX12_puts_4 : decode cX12_puts 4 = .ok (.ifCond .eq 4, 3) := by decide +kernel
theorem dX12_puts_7 : decode cX12_puts 7 = .ok (.return_, 1) := by decide +kernel
theorem dX12_puts_8 : decode cX12_puts 8 = .ok (.aload_n 0, 1) := by decide +kernel
theorem dX12_puts_9 : decode cX12_puts 9 = .ok (.getfield 55, 3) := by decide +kernel
theorem dX12_puts_12 : decode cX12_puts 12 = .ok (.bipush 64, 2) := by decide +kernel
theorem dX12_puts_14 : decode cX12_puts 14 = .ok (.aload_n 0, 1) := by decide +kernel
theorem dX12_puts_15 : decode cX12_puts 15 = .ok (.bipush 6, 2) := by decide +kernel
theorem dX12_puts_17 : decode cX12_puts 17 = .ok (.invokevirtual 209, 3) := by decide +kernel
theorem dX12_puts_20 : decode cX12_puts 20 = .ok (.iadd, 1) := by decide +kernel
theorem dX12_puts_21 : decode cX12_puts 21 = .ok (.iload_n 1, 1) := by decide +kernel
theorem dX12_puts_22 : decode cX12_puts 22 = .ok (.iastore, 1) := by decide +kernel
theorem dX12_puts_23 : decode cX12_puts 23 = .ok (.aload_n 0, 1) := by decide +kernel
theorem dX12_puts_24 : decode cX12_puts 24 = .ok (.getfield 58, 3) := by decide +kernel
theorem dX12_puts_27 : decode cX12_puts 27 = .ok (.bipush 64, 2) := by decide +kernel
theorem dX12_puts_29 : decode cX12_puts 29 = .ok (.aload_n 0, 1) := by decide +kernel
theorem dX12_puts_30 : decode cX12_puts 30 = .ok (.bipush 6, 2) := by decide +kernel
theorem dX12_puts_32 : decode cX12_puts 32 = .ok (.invokevirtual 209, 3) := by decide +kernel
theorem dX12_puts_35 : decode cX12_puts 35 = .ok (.iadd, 1) := by decide +kernel
theorem dX12_puts_36 : decode cX12_puts 36 = .ok (.iload_n 2, 1) := by decide +kernel
theorem dX12_puts_37 : decode cX12_puts 37 = .ok (.iastore, 1) := by decide +kernel
theorem dX12_puts_38 : decode cX12_puts 38 = .ok (.aload_n 0, 1) := by decide +kernel
theorem dX12_puts_39 : decode cX12_puts 39 = .ok (.bipush 6, 2) := by decide +kernel
theorem dX12_puts_41 : decode cX12_puts 41 = .ok (.aload_n 0, 1) := by decide +kernel
theorem dX12_puts_42 : decode cX12_puts 42 = .ok (.bipush 6, 2) := by decide +kernel
theorem dX12_puts_44 : decode cX12_puts 44 = .ok (.invokevirtual 209, 3) := by decide +kernel
theorem dX12_puts_47 : decode cX12_puts 47 = .ok (.iconst 1, 1) := by decide +kernel
theorem dX12_puts_48 : decode cX12_puts 48 = .ok (.iadd, 1) := by decide +kernel
theorem dX12_puts_49 : decode cX12_puts 49 = .ok (.invokevirtual 226, 3) := by decide +kernel
theorem dX12_puts_52 : decode cX12_puts 52 = .ok (.return_, 1) := by decide +kernel
theorem dX12_knot_0 : decode cX12_knot 0 = .ok (.aload_n 0, 1) := by decide +kernel
theorem dX12_knot_1 : decode cX12_knot 1 = .ok (.getfield 190, 3) := by decide +kernel
theorem dX12_knot_4 : decode cX12_knot 4 = .ok (.ifCond .eq 4, 3) := by decide +kernel
theorem dX12_knot_7 : decode cX12_knot 7 = .ok (.return_, 1) := by decide +kernel
theorem dX12_knot_8 : decode cX12_knot 8 = .ok (.aload_n 0, 1) := by decide +kernel
theorem dX12_knot_9 : decode cX12_knot 9 = .ok (.getfield 249, 3) := by decide +kernel
theorem dX12_knot_12 : decode cX12_knot 12 = .ok (.bipush 64, 2) := by decide +kernel
theorem dX12_knot_14 : decode cX12_knot 14 = .ok (.if_icmp .ne 11, 3) := by decide +kernel
theorem dX12_knot_17 : decode cX12_knot 17 = .ok (.aload_n 0, 1) := by decide +kernel
theorem dX12_knot_18 : decode cX12_knot 18 = .ok (.iconst 2, 1) := by decide +kernel
theorem dX12_knot_19 : decode cX12_knot 19 = .ok (.invokevirtual 199, 3) := by decide +kernel
theorem dX12_knot_22 : decode cX12_knot 22 = .ok (.goto 13, 3) := by decide +kernel
theorem dX12_knot_25 : decode cX12_knot 25 = .ok (.aload_n 0, 1) := by decide +kernel
theorem dX12_knot_26 : decode cX12_knot 26 = .ok (.dup, 1) := by decide +kernel
theorem dX12_knot_27 : decode cX12_knot 27 = .ok (.getfield 249, 3) := by decide +kernel
theorem dX12_knot_30 : decode cX12_knot 30 = .ok (.iconst 1, 1) := by decide +kernel
theorem dX12_knot_31 : decode cX12_knot 31 = .ok (.iadd, 1) := by decide +kernel
theorem dX12_knot_32 : decode cX12_knot 32 = .ok (.putfield 249, 3) := by decide +kernel
theorem dX12_knot_35 : decode cX12_knot 35 = .ok (.return_, 1) := by decide +kernel
theorem dX12_expression_0 : decode cX12_expression 0 = .ok (.aload_n 0, 1) := by decide +kernel
theorem dX12_expression_1 : decode cX12_expression 1 = .ok (.invokevirtual 252, 3) := by decide +kernel
theorem dX12_expression_4 : decode cX12_expression 4 = .ok (.aload_n 0, 1) := by decide +kernel
theorem dX12_expression_5 : decode cX12_expression 5 = .ok (.bipush 11, 2) := by decide +kernel
theorem dX12_expression_7 : decode cX12_expression 7 = .ok (.invokevirtual 255, 3) := by decide +kernel
theorem dX12_expression_10 : decode cX12_expression 10 = .ok (.ifCond .eq 26, 3) := by decide +kernel
theorem dX12_expression_13 : decode cX12_expression 13 = .ok (.aload_n 0, 1) := by decide +kernel
theorem dX12_expression_14 : decode cX12_expression 14 = .ok (.invokevirtual 258, 3) := by decide +kernel
theorem dX12_expression_17 : decode cX12_expression 17 = .ok (.aload_n 0, 1) := by decide +kernel
theorem dX12_expression_18 : decode cX12_expression 18 = .ok (.invokevirtual 206, 3) := by decide +kernel
theorem dX12_expression_21 : decode cX12_expression 21 = .ok (.aload_n 0, 1) := by decide +kernel
theorem dX12_expression_22 : decode cX12_expression 22 = .ok (.invokevirtual 252, 3) := by decide +kernel
theorem dX12_expression_25 : decode cX12_expression 25 = .ok (.aload_n 0, 1) := by decide +kernel
theorem dX12_expression_26 : decode cX12_expression 26 = .ok (.iconst 2, 1) := by decide +kernel
theorem dX12_expression_27 : decode cX12_expression 27 = .ok (.sipush 262, 3) := by decide +kernel
theorem dX12_expression_30 : decode cX12_expression 30 = .ok (.invokevirtual 261, 3) := by decide +kernel
theorem dX12_expression_33 : decode cX12_expression 33 = .ok (.goto (-29), 3) := by decide +kernel
theorem dX12_expression_36 : decode cX12_expression 36 = .ok (.return_, 1) := by decide +kernel
theorem dX12_conjunction_0 : decode cX12_conjunction 0 = .ok (.aload_n 0, 1) := by decide +kernel
theorem dX12_conjunction_1 : decode cX12_conjunction 1 = .ok (.invokevirtual 264, 3) := by decide +kernel
theorem dX12_conjunction_4 : decode cX12_conjunction 4 = .ok (.aload_n 0, 1) := by decide +kernel
theorem dX12_conjunction_5 : decode cX12_conjunction 5 = .ok (.bipush 12, 2) := by decide +kernel
theorem dX12_conjunction_7 : decode cX12_conjunction 7 = .ok (.invokevirtual 255, 3) := by decide +kernel
theorem dX12_conjunction_10 : decode cX12_conjunction 10 = .ok (.ifCond .eq 26, 3) := by decide +kernel
theorem dX12_conjunction_13 : decode cX12_conjunction 13 = .ok (.aload_n 0, 1) := by decide +kernel
theorem dX12_conjunction_14 : decode cX12_conjunction 14 = .ok (.invokevirtual 258, 3) := by decide +kernel
theorem dX12_conjunction_17 : decode cX12_conjunction 17 = .ok (.aload_n 0, 1) := by decide +kernel
theorem dX12_conjunction_18 : decode cX12_conjunction 18 = .ok (.invokevirtual 206, 3) := by decide +kernel
theorem dX12_conjunction_21 : decode cX12_conjunction 21 = .ok (.aload_n 0, 1) := by decide +kernel
theorem dX12_conjunction_22 : decode cX12_conjunction 22 = .ok (.invokevirtual 264, 3) := by decide +kernel
theorem dX12_conjunction_25 : decode cX12_conjunction 25 = .ok (.aload_n 0, 1) := by decide +kernel
theorem dX12_conjunction_26 : decode cX12_conjunction 26 = .ok (.iconst 2, 1) := by decide +kernel
theorem dX12_conjunction_27 : decode cX12_conjunction 27 = .ok (.sipush 261, 3) := by decide +kernel
theorem dX12_conjunction_30 : decode cX12_conjunction 30 = .ok (.invokevirtual 261, 3) := by decide +kernel
theorem dX12_conjunction_33 : decode cX12_conjunction 33 = .ok (.goto (-29), 3) := by decide +kernel
theorem dX12_conjunction_36 : decode cX12_conjunction 36 = .ok (.return_, 1) := by decide +kernel
theorem dX12_negation_0 : decode cX12_negation 0 = .ok (.aload_n 0, 1) := by decide +kernel
theorem dX12_negation_1 : decode cX12_negation 1 = .ok (.bipush 13, 2) := by decide +kernel
theorem dX12_negation_3 : decode cX12_negation 3 = .ok (.invokevirtual 255, 3) := by decide +kernel
theorem dX12_negation_6 : decode cX12_negation 6 = .ok (.ifCond .eq 24, 3) := by decide +kernel
theorem dX12_negation_9 : decode cX12_negation 9 = .ok (.aload_n 0, 1) := by decide +kernel
theorem dX12_negation_10 : decode cX12_negation 10 = .ok (.invokevirtual 258, 3) := by decide +kernel
theorem dX12_negation_13 : decode cX12_negation 13 = .ok (.aload_n 0, 1) := by decide +kernel
theorem dX12_negation_14 : decode cX12_negation 14 = .ok (.invokevirtual 206, 3) := by decide +kernel
theorem dX12_negation_17 : decode cX12_negation 17 = .ok (.aload_n 0, 1) := by decide +kernel
theorem dX12_negation_18 : decode cX12_negation 18 = .ok (.invokevirtual 264, 3) := by decide +kernel
theorem dX12_negation_21 : decode cX12_negation 21 = .ok (.aload_n 0, 1) := by decide +kernel
theorem dX12_negation_22 : decode cX12_negation 22 = .ok (.iconst 2, 1) := by decide +kernel
theorem dX12_negation_23 : decode cX12_negation 23 = .ok (.sipush 260, 3) := by decide +kernel
theorem dX12_negation_26 : decode cX12_negation 26 = .ok (.invokevirtual 261, 3) := by decide +kernel
theorem dX12_negation_29 : decode cX12_negation 29 = .ok (.return_, 1) := by decide +kernel
theorem dX12_negation_30 : decode cX12_negation 30 = .ok (.aload_n 0, 1) := by decide +kernel
theorem dX12_negation_31 : decode cX12_negation 31 = .ok (.invokevirtual 267, 3) := by decide +kernel
theorem dX12_negation_34 : decode cX12_negation 34 = .ok (.aload_n 0, 1) := by decide +kernel
theorem dX12_negation_35 : decode cX12_negation 35 = .ok (.getfield 190, 3) := by decide +kernel
theorem dX12_negation_38 : decode cX12_negation 38 = .ok (.ifCond .ne 48, 3) := by decide +kernel
theorem dX12_negation_41 : decode cX12_negation 41 = .ok (.aload_n 0, 1) := by decide +kernel
theorem dX12_negation_42 : decode cX12_negation 42 = .ok (.getfield 155, 3) := by decide +kernel
theorem dX12_negation_45 : decode cX12_negation 45 = .ok (.iconst 3, 1) := by decide +kernel
theorem dX12_negation_46 : decode cX12_negation 46 = .ok (.if_icmp .ne 40, 3) := by decide +kernel
theorem dX12_negation_49 : decode cX12_negation 49 = .ok (.aload_n 0, 1) := by decide +kernel
theorem dX12_negation_50 : decode cX12_negation 50 = .ok (.getfield 165, 3) := by decide +kernel
theorem dX12_negation_53 : decode cX12_negation 53 = .ok (.bipush 60, 2) := by decide +kernel
theorem dX12_negation_55 : decode cX12_negation 55 = .ok (.if_icmp .eq 32, 3) := by decide +kernel
theorem dX12_negation_58 : decode cX12_negation 58 = .ok (.aload_n 0, 1) := by decide +kernel
theorem dX12_negation_59 : decode cX12_negation 59 = .ok (.getfield 165, 3) := by decide +kernel
theorem dX12_negation_62 : decode cX12_negation 62 = .ok (.bipush 62, 2) := by decide +kernel
theorem dX12_negation_64 : decode cX12_negation 64 = .ok (.if_icmp .eq 23, 3) := by decide +kernel
theorem dX12_negation_67 : decode cX12_negation 67 = .ok (.aload_n 0, 1) := by decide +kernel
theorem dX12_negation_68 : decode cX12_negation 68 = .ok (.getfield 165, 3) := by decide +kernel
theorem dX12_negation_71 : decode cX12_negation 71 = .ok (.bipush 61, 2) := by decide +kernel
theorem dX12_negation_73 : decode cX12_negation 73 = .ok (.if_icmp .eq 14, 3) := by decide +kernel
theorem dX12_negation_76 : decode cX12_negation 76 = .ok (.aload_n 0, 1) := by decide +kernel
theorem dX12_negation_77 : decode cX12_negation 77 = .ok (.getfield 165, 3) := by decide +kernel
theorem dX12_negation_80 : decode cX12_negation 80 = .ok (.sipush 256, 3) := by decide +kernel
theorem dX12_negation_83 : decode cX12_negation 83 = .ok (.if_icmp .ge 4, 3) := by decide +kernel
theorem dX12_negation_86 : decode cX12_negation 86 = .ok (.return_, 1) := by decide +kernel
theorem dX12_negation_87 : decode cX12_negation 87 = .ok (.aload_n 0, 1) := by decide +kernel
theorem dX12_negation_88 : decode cX12_negation 88 = .ok (.getfield 165, 3) := by decide +kernel
theorem dX12_negation_91 : decode cX12_negation 91 = .ok (.istore_n 1, 1) := by decide +kernel
theorem dX12_negation_92 : decode cX12_negation 92 = .ok (.aload_n 0, 1) := by decide +kernel
theorem dX12_negation_93 : decode cX12_negation 93 = .ok (.invokevirtual 258, 3) := by decide +kernel
theorem dX12_negation_96 : decode cX12_negation 96 = .ok (.aload_n 0, 1) := by decide +kernel
theorem dX12_negation_97 : decode cX12_negation 97 = .ok (.invokevirtual 206, 3) := by decide +kernel
theorem dX12_negation_100 : decode cX12_negation 100 = .ok (.aload_n 0, 1) := by decide +kernel
theorem dX12_negation_101 : decode cX12_negation 101 = .ok (.invokevirtual 267, 3) := by decide +kernel
theorem dX12_negation_104 : decode cX12_negation 104 = .ok (.aload_n 0, 1) := by decide +kernel
theorem dX12_negation_105 : decode cX12_negation 105 = .ok (.iconst 2, 1) := by decide +kernel
theorem dX12_negation_106 : decode cX12_negation 106 = .ok (.iload_n 1, 1) := by decide +kernel
theorem dX12_negation_107 : decode cX12_negation 107 = .ok (.invokevirtual 261, 3) := by decide +kernel
theorem dX12_negation_110 : decode cX12_negation 110 = .ok (.return_, 1) := by decide +kernel
theorem dX12_sum_0 : decode cX12_sum 0 = .ok (.aload_n 0, 1) := by decide +kernel
theorem dX12_sum_1 : decode cX12_sum 1 = .ok (.invokevirtual 270, 3) := by decide +kernel
theorem dX12_sum_4 : decode cX12_sum 4 = .ok (.aload_n 0, 1) := by decide +kernel
theorem dX12_sum_5 : decode cX12_sum 5 = .ok (.bipush 43, 2) := by decide +kernel
theorem dX12_sum_7 : decode cX12_sum 7 = .ok (.invokevirtual 243, 3) := by decide +kernel
theorem dX12_sum_10 : decode cX12_sum 10 = .ok (.ifCond .ne 12, 3) := by decide +kernel
theorem dX12_sum_13 : decode cX12_sum 13 = .ok (.aload_n 0, 1) := by decide +kernel
theorem dX12_sum_14 : decode cX12_sum 14 = .ok (.bipush 45, 2) := by decide +kernel
theorem dX12_sum_16 : decode cX12_sum 16 = .ok (.invokevirtual 243, 3) := by decide +kernel
theorem dX12_sum_19 : decode cX12_sum 19 = .ok (.ifCond .eq 29, 3) := by decide +kernel
theorem dX12_sum_22 : decode cX12_sum 22 = .ok (.aload_n 0, 1) := by decide +kernel
theorem dX12_sum_23 : decode cX12_sum 23 = .ok (.getfield 165, 3) := by decide +kernel
theorem dX12_sum_26 : decode cX12_sum 26 = .ok (.istore_n 1, 1) := by decide +kernel
theorem dX12_sum_27 : decode cX12_sum 27 = .ok (.aload_n 0, 1) := by decide +kernel
theorem dX12_sum_28 : decode cX12_sum 28 = .ok (.invokevirtual 258, 3) := by decide +kernel
theorem dX12_sum_31 : decode cX12_sum 31 = .ok (.aload_n 0, 1) := by decide +kernel
theorem dX12_sum_32 : decode cX12_sum 32 = .ok (.invokevirtual 206, 3) := by decide +kernel
theorem dX12_sum_35 : decode cX12_sum 35 = .ok (.aload_n 0, 1) := by decide +kernel
theorem dX12_sum_36 : decode cX12_sum 36 = .ok (.invokevirtual 270, 3) := by decide +kernel
theorem dX12_sum_39 : decode cX12_sum 39 = .ok (.aload_n 0, 1) := by decide +kernel
theorem dX12_sum_40 : decode cX12_sum 40 = .ok (.iconst 2, 1) := by decide +kernel
theorem dX12_sum_41 : decode cX12_sum 41 = .ok (.iload_n 1, 1) := by decide +kernel
theorem dX12_sum_42 : decode cX12_sum 42 = .ok (.invokevirtual 261, 3) := by decide +kernel
theorem dX12_sum_45 : decode cX12_sum 45 = .ok (.goto (-41), 3) := by decide +kernel
theorem dX12_sum_48 : decode cX12_sum 48 = .ok (.return_, 1) := by decide +kernel
theorem dX12_product_0 : decode cX12_product 0 = .ok (.aload_n 0, 1) := by decide +kernel
theorem dX12_product_1 : decode cX12_product 1 = .ok (.invokevirtual 273, 3) := by decide +kernel
theorem dX12_product_4 : decode cX12_product 4 = .ok (.aload_n 0, 1) := by decide +kernel
theorem dX12_product_5 : decode cX12_product 5 = .ok (.bipush 42, 2) := by decide +kernel
theorem dX12_product_7 : decode cX12_product 7 = .ok (.invokevirtual 243, 3) := by decide +kernel
theorem dX12_product_10 : decode cX12_product 10 = .ok (.ifCond .ne 12, 3) := by decide +kernel
theorem dX12_product_13 : decode cX12_product 13 = .ok (.aload_n 0, 1) := by decide +kernel
theorem dX12_product_14 : decode cX12_product 14 = .ok (.bipush 47, 2) := by decide +kernel
theorem dX12_product_16 : decode cX12_product 16 = .ok (.invokevirtual 243, 3) := by decide +kernel
theorem dX12_product_19 : decode cX12_product 19 = .ok (.ifCond .eq 29, 3) := by decide +kernel
theorem dX12_product_22 : decode cX12_product 22 = .ok (.aload_n 0, 1) := by decide +kernel
theorem dX12_product_23 : decode cX12_product 23 = .ok (.getfield 165, 3) := by decide +kernel
theorem dX12_product_26 : decode cX12_product 26 = .ok (.istore_n 1, 1) := by decide +kernel
theorem dX12_product_27 : decode cX12_product 27 = .ok (.aload_n 0, 1) := by decide +kernel
theorem dX12_product_28 : decode cX12_product 28 = .ok (.invokevirtual 258, 3) := by decide +kernel
theorem dX12_product_31 : decode cX12_product 31 = .ok (.aload_n 0, 1) := by decide +kernel
theorem dX12_product_32 : decode cX12_product 32 = .ok (.invokevirtual 206, 3) := by decide +kernel
theorem dX12_product_35 : decode cX12_product 35 = .ok (.aload_n 0, 1) := by decide +kernel
theorem dX12_product_36 : decode cX12_product 36 = .ok (.invokevirtual 273, 3) := by decide +kernel
theorem dX12_product_39 : decode cX12_product 39 = .ok (.aload_n 0, 1) := by decide +kernel
theorem dX12_product_40 : decode cX12_product 40 = .ok (.iconst 2, 1) := by decide +kernel
theorem dX12_product_41 : decode cX12_product 41 = .ok (.iload_n 1, 1) := by decide +kernel
theorem dX12_product_42 : decode cX12_product 42 = .ok (.invokevirtual 261, 3) := by decide +kernel
theorem dX12_product_45 : decode cX12_product 45 = .ok (.goto (-41), 3) := by decide +kernel
theorem dX12_product_48 : decode cX12_product 48 = .ok (.return_, 1) := by decide +kernel
theorem dX12_primary_0 : decode cX12_primary 0 = .ok (.aload_n 0, 1) := by decide +kernel
theorem dX12_primary_1 : decode cX12_primary 1 = .ok (.getfield 190, 3) := by decide +kernel
theorem dX12_primary_4 : decode cX12_primary 4 = .ok (.ifCond .eq 4, 3) := by decide +kernel
theorem dX12_primary_7 : decode cX12_primary 7 = .ok (.return_, 1) := by decide +kernel
theorem dX12_primary_8 : decode cX12_primary 8 = .ok (.aload_n 0, 1) := by decide +kernel
theorem dX12_primary_9 : decode cX12_primary 9 = .ok (.bipush 40, 2) := by decide +kernel
theorem dX12_primary_11 : decode cX12_primary 11 = .ok (.invokevirtual 243, 3) := by decide +kernel
theorem dX12_primary_14 : decode cX12_primary 14 = .ok (.ifCond .eq 87, 3) := by decide +kernel
theorem dX12_primary_17 : decode cX12_primary 17 = .ok (.aload_n 0, 1) := by decide +kernel
theorem dX12_primary_18 : decode cX12_primary 18 = .ok (.getfield 276, 3) := by decide +kernel
theorem dX12_primary_21 : decode cX12_primary 21 = .ok (.bipush 8, 2) := by decide +kernel
theorem dX12_primary_23 : decode cX12_primary 23 = .ok (.if_icmp .ne 8, 3) := by decide +kernel
theorem dX12_primary_26 : decode cX12_primary 26 = .ok (.aload_n 0, 1) := by decide +kernel
theorem dX12_primary_27 : decode cX12_primary 27 = .ok (.iconst 2, 1) := by decide +kernel
theorem dX12_primary_28 : decode cX12_primary 28 = .ok (.invokevirtual 199, 3) := by decide +kernel
theorem dX12_primary_31 : decode cX12_primary 31 = .ok (.aload_n 0, 1) := by decide +kernel
theorem dX12_primary_32 : decode cX12_primary 32 = .ok (.getfield 190, 3) := by decide +kernel
theorem dX12_primary_35 : decode cX12_primary 35 = .ok (.ifCond .eq 4, 3) := by decide +kernel
theorem dX12_primary_38 : decode cX12_primary 38 = .ok (.return_, 1) := by decide +kernel
theorem dX12_primary_39 : decode cX12_primary 39 = .ok (.aload_n 0, 1) := by decide +kernel
theorem dX12_primary_40 : decode cX12_primary 40 = .ok (.dup, 1) := by decide +kernel
theorem dX12_primary_41 : decode cX12_primary 41 = .ok (.getfield 276, 3) := by decide +kernel
theorem dX12_primary_44 : decode cX12_primary 44 = .ok (.iconst 1, 1) := by decide +kernel
theorem dX12_primary_45 : decode cX12_primary 45 = .ok (.iadd, 1) := by decide +kernel
theorem dX12_primary_46 : decode cX12_primary 46 = .ok (.putfield 276, 3) := by decide +kernel
theorem dX12_primary_49 : decode cX12_primary 49 = .ok (.aload_n 0, 1) := by decide +kernel
theorem dX12_primary_50 : decode cX12_primary 50 = .ok (.invokevirtual 196, 3) := by decide +kernel
theorem dX12_primary_53 : decode cX12_primary 53 = .ok (.aload_n 0, 1) := by decide +kernel
theorem dX12_primary_54 : decode cX12_primary 54 = .ok (.invokevirtual 246, 3) := by decide +kernel
theorem dX12_primary_57 : decode cX12_primary 57 = .ok (.aload_n 0, 1) := by decide +kernel
theorem dX12_primary_58 : decode cX12_primary 58 = .ok (.getfield 190, 3) := by decide +kernel
theorem dX12_primary_61 : decode cX12_primary 61 = .ok (.ifCond .ne 17, 3) := by decide +kernel
theorem dX12_primary_64 : decode cX12_primary 64 = .ok (.aload_n 0, 1) := by decide +kernel
theorem dX12_primary_65 : decode cX12_primary 65 = .ok (.bipush 41, 2) := by decide +kernel
theorem dX12_primary_67 : decode cX12_primary 67 = .ok (.invokevirtual 243, 3) := by decide +kernel
theorem dX12_primary_70 : decode cX12_primary 70 = .ok (.ifCond .ne 8, 3) := by decide +kernel
theorem dX12_primary_73 : decode cX12_primary 73 = .ok (.aload_n 0, 1) := by decide +kernel
theorem dX12_primary_74 : decode cX12_primary 74 = .ok (.iconst 1, 1) := by decide +kernel
theorem dX12_primary_75 : decode cX12_primary 75 = .ok (.invokevirtual 199, 3) := by decide +kernel
theorem dX12_primary_78 : decode cX12_primary 78 = .ok (.aload_n 0, 1) := by decide +kernel
theorem dX12_primary_79 : decode cX12_primary 79 = .ok (.getfield 190, 3) := by decide +kernel
theorem dX12_primary_82 : decode cX12_primary 82 = .ok (.ifCond .eq 4, 3) := by decide +kernel
theorem dX12_primary_85 : decode cX12_primary 85 = .ok (.return_, 1) := by decide +kernel
theorem dX12_primary_86 : decode cX12_primary 86 = .ok (.aload_n 0, 1) := by decide +kernel
theorem dX12_primary_87 : decode cX12_primary 87 = .ok (.dup, 1) := by decide +kernel
theorem dX12_primary_88 : decode cX12_primary 88 = .ok (.getfield 276, 3) := by decide +kernel
theorem dX12_primary_91 : decode cX12_primary 91 = .ok (.iconst 1, 1) := by decide +kernel
theorem dX12_primary_92 : decode cX12_primary 92 = .ok (.isub, 1) := by decide +kernel
theorem dX12_primary_93 : decode cX12_primary 93 = .ok (.putfield 276, 3) := by decide +kernel
theorem dX12_primary_96 : decode cX12_primary 96 = .ok (.aload_n 0, 1) := by decide +kernel
theorem dX12_primary_97 : decode cX12_primary 97 = .ok (.invokevirtual 196, 3) := by decide +kernel
theorem dX12_primary_100 : decode cX12_primary 100 = .ok (.return_, 1) := by decide +kernel
theorem dX12_primary_101 : decode cX12_primary 101 = .ok (.aload_n 0, 1) := by decide +kernel
theorem dX12_primary_102 : decode cX12_primary 102 = .ok (.getfield 155, 3) := by decide +kernel
theorem dX12_primary_105 : decode cX12_primary 105 = .ok (.iconst 2, 1) := by decide +kernel
theorem dX12_primary_106 : decode cX12_primary 106 = .ok (.if_icmp .ne 7, 3) := by decide +kernel
theorem dX12_primary_109 : decode cX12_primary 109 = .ok (.iconst 1, 1) := by decide +kernel
theorem dX12_primary_110 : decode cX12_primary 110 = .ok (.goto 4, 3) := by decide +kernel
theorem dX12_primary_113 : decode cX12_primary 113 = .ok (.iconst 0, 1) := by decide +kernel
theorem dX12_primary_114 : decode cX12_primary 114 = .ok (.istore_n 1, 1) := by decide +kernel
theorem dX12_primary_115 : decode cX12_primary 115 = .ok (.iload_n 1, 1) := by decide +kernel
theorem dX12_primary_116 : decode cX12_primary 116 = .ok (.ifCond .eq 21, 3) := by decide +kernel
theorem dX12_primary_119 : decode cX12_primary 119 = .ok (.aload_n 0, 1) := by decide +kernel
theorem dX12_primary_120 : decode cX12_primary 120 = .ok (.getfield 165, 3) := by decide +kernel
theorem dX12_primary_123 : decode cX12_primary 123 = .ok (.sipush 9999, 3) := by decide +kernel
theorem dX12_primary_126 : decode cX12_primary 126 = .ok (.if_icmp .le 11, 3) := by decide +kernel
theorem dX12_primary_129 : decode cX12_primary 129 = .ok (.aload_n 0, 1) := by decide +kernel
theorem dX12_primary_130 : decode cX12_primary 130 = .ok (.iconst 2, 1) := by decide +kernel
theorem dX12_primary_131 : decode cX12_primary 131 = .ok (.invokevirtual 199, 3) := by decide +kernel
theorem dX12_primary_134 : decode cX12_primary 134 = .ok (.goto 28, 3) := by decide +kernel
theorem dX12_primary_137 : decode cX12_primary 137 = .ok (.iload_n 1, 1) := by decide +kernel
theorem dX12_primary_138 : decode cX12_primary 138 = .ok (.ifCond .ne 24, 3) := by decide +kernel
theorem dX12_primary_141 : decode cX12_primary 141 = .ok (.aload_n 0, 1) := by decide +kernel
theorem dX12_primary_142 : decode cX12_primary 142 = .ok (.getfield 155, 3) := by decide +kernel
theorem dX12_primary_145 : decode cX12_primary 145 = .ok (.ifCond .ne 12, 3) := by decide +kernel
theorem dX12_primary_148 : decode cX12_primary 148 = .ok (.aload_n 0, 1) := by decide +kernel
theorem dX12_primary_149 : decode cX12_primary 149 = .ok (.getfield 165, 3) := by decide +kernel
theorem dX12_primary_152 : decode cX12_primary 152 = .ok (.bipush 14, 2) := by decide +kernel
theorem dX12_primary_154 : decode cX12_primary 154 = .ok (.if_icmp .ge 8, 3) := by decide +kernel
theorem dX12_primary_157 : decode cX12_primary 157 = .ok (.aload_n 0, 1) := by decide +kernel
theorem dX12_primary_158 : decode cX12_primary 158 = .ok (.iconst 1, 1) := by decide +kernel
theorem dX12_primary_159 : decode cX12_primary 159 = .ok (.invokevirtual 199, 3) := by decide +kernel
theorem dX12_primary_162 : decode cX12_primary 162 = .ok (.aload_n 0, 1) := by decide +kernel
theorem dX12_primary_163 : decode cX12_primary 163 = .ok (.invokevirtual 258, 3) := by decide +kernel
theorem dX12_primary_166 : decode cX12_primary 166 = .ok (.aload_n 0, 1) := by decide +kernel
theorem dX12_primary_167 : decode cX12_primary 167 = .ok (.iload_n 1, 1) := by decide +kernel
theorem dX12_primary_168 : decode cX12_primary 168 = .ok (.ifCond .eq 7, 3) := by decide +kernel
theorem dX12_primary_171 : decode cX12_primary 171 = .ok (.iconst 0, 1) := by decide +kernel
theorem dX12_primary_172 : decode cX12_primary 172 = .ok (.goto 4, 3) := by decide +kernel
theorem dX12_primary_175 : decode cX12_primary 175 = .ok (.iconst 1, 1) := by decide +kernel
theorem dX12_primary_176 : decode cX12_primary 176 = .ok (.iload_n 1, 1) := by decide +kernel
theorem dX12_primary_177 : decode cX12_primary 177 = .ok (.ifCond .eq 10, 3) := by decide +kernel
theorem dX12_primary_180 : decode cX12_primary 180 = .ok (.aload_n 0, 1) := by decide +kernel
theorem dX12_primary_181 : decode cX12_primary 181 = .ok (.getfield 165, 3) := by decide +kernel
theorem dX12_primary_184 : decode cX12_primary 184 = .ok (.goto 10, 3) := by decide +kernel
theorem dX12_primary_187 : decode cX12_primary 187 = .ok (.aload_n 0, 1) := by decide +kernel
theorem dX12_primary_188 : decode cX12_primary 188 = .ok (.getfield 165, 3) := by decide +kernel
theorem dX12_primary_191 : decode cX12_primary 191 = .ok (.bipush 14, 2) := by decide +kernel
theorem dX12_primary_193 : decode cX12_primary 193 = .ok (.isub, 1) := by decide +kernel
theorem dX12_primary_194 : decode cX12_primary 194 = .ok (.invokevirtual 261, 3) := by decide +kernel
theorem dX12_primary_197 : decode cX12_primary 197 = .ok (.aload_n 0, 1) := by decide +kernel
theorem dX12_primary_198 : decode cX12_primary 198 = .ok (.invokevirtual 206, 3) := by decide +kernel
theorem dX12_primary_201 : decode cX12_primary 201 = .ok (.return_, 1) := by decide +kernel
theorem dX12_half_0 : decode cX12_half 0 = .ok (.aload_n 0, 1) := by decide +kernel
theorem dX12_half_1 : decode cX12_half 1 = .ok (.arraylength, 1) := by decide +kernel
theorem dX12_half_2 : decode cX12_half 2 = .ok (.iconst 2, 1) := by decide +kernel
theorem dX12_half_3 : decode cX12_half 3 = .ok (.idiv, 1) := by decide +kernel
theorem dX12_half_4 : decode cX12_half 4 = .ok (.istore_n 1, 1) := by decide +kernel
theorem dX12_half_5 : decode cX12_half 5 = .ok (.iconst 0, 1) := by decide +kernel
theorem dX12_half_6 : decode cX12_half 6 = .ok (.istore_n 2, 1) := by decide +kernel
theorem dX12_half_7 : decode cX12_half 7 = .ok (.iload_n 2, 1) := by decide +kernel
theorem dX12_half_8 : decode cX12_half 8 = .ok (.iload_n 1, 1) := by decide +kernel
theorem dX12_half_9 : decode cX12_half 9 = .ok (.if_icmp .ge 17, 3) := by decide +kernel
theorem dX12_half_12 : decode cX12_half 12 = .ok (.aload_n 0, 1) := by decide +kernel
theorem dX12_half_13 : decode cX12_half 13 = .ok (.iload_n 2, 1) := by decide +kernel
theorem dX12_half_14 : decode cX12_half 14 = .ok (.aload_n 0, 1) := by decide +kernel
theorem dX12_half_15 : decode cX12_half 15 = .ok (.iload_n 1, 1) := by decide +kernel
theorem dX12_half_16 : decode cX12_half 16 = .ok (.iload_n 2, 1) := by decide +kernel
theorem dX12_half_17 : decode cX12_half 17 = .ok (.iadd, 1) := by decide +kernel
theorem dX12_half_18 : decode cX12_half 18 = .ok (.iaload, 1) := by decide +kernel
theorem dX12_half_19 : decode cX12_half 19 = .ok (.iastore, 1) := by decide +kernel
theorem dX12_half_20 : decode cX12_half 20 = .ok (.iinc 2 1, 3) := by decide +kernel
theorem dX12_half_23 : decode cX12_half 23 = .ok (.goto (-16), 3) := by decide +kernel
theorem dX12_half_26 : decode cX12_half 26 = .ok (.return_, 1) := by decide +kernel
theorem dX12_text_0 : decode cX12_text 0 = .ok (.aload_n 0, 1) := by decide +kernel
theorem dX12_text_1 : decode cX12_text 1 = .ok (.iconst 0, 1) := by decide +kernel
theorem dX12_text_2 : decode cX12_text 2 = .ok (.putfield 136, 3) := by decide +kernel
theorem dX12_text_5 : decode cX12_text 5 = .ok (.iload_n 1, 1) := by decide +kernel
theorem dX12_text_6 : decode cX12_text 6 = .ok (.ifCond .lt 11, 3) := by decide +kernel
theorem dX12_text_9 : decode cX12_text 9 = .ok (.iload_n 1, 1) := by decide +kernel
theorem dX12_text_10 : decode cX12_text 10 = .ok (.aload_n 0, 1) := by decide +kernel
theorem dX12_text_11 : decode cX12_text 11 = .ok (.getfield 139, 3) := by decide +kernel
theorem dX12_text_14 : decode cX12_text 14 = .ok (.if_icmp .le 6, 3) := by decide +kernel
theorem dX12_text_17 : decode cX12_text 17 = .ok (.bipush (-2), 2) := by decide +kernel
theorem dX12_text_19 : decode cX12_text 19 = .ok (.ireturn, 1) := by decide +kernel
theorem dX12_text_20 : decode cX12_text 20 = .ok (.aload_n 0, 1) := by decide +kernel
theorem dX12_text_21 : decode cX12_text 21 = .ok (.iload_n 1, 1) := by decide +kernel
theorem dX12_text_22 : decode cX12_text 22 = .ok (.putfield 145, 3) := by decide +kernel
theorem dX12_text_25 : decode cX12_text 25 = .ok (.aload_n 0, 1) := by decide +kernel
theorem dX12_text_26 : decode cX12_text 26 = .ok (.iconst 0, 1) := by decide +kernel
theorem dX12_text_27 : decode cX12_text 27 = .ok (.putfield 139, 3) := by decide +kernel
theorem dX12_text_30 : decode cX12_text 30 = .ok (.aload_n 0, 1) := by decide +kernel
theorem dX12_text_31 : decode cX12_text 31 = .ok (.iconst 0, 1) := by decide +kernel
theorem dX12_text_32 : decode cX12_text 32 = .ok (.putfield 142, 3) := by decide +kernel
theorem dX12_text_35 : decode cX12_text 35 = .ok (.aload_n 0, 1) := by decide +kernel
theorem dX12_text_36 : decode cX12_text 36 = .ok (.iconst 0, 1) := by decide +kernel
theorem dX12_text_37 : decode cX12_text 37 = .ok (.putfield 190, 3) := by decide +kernel
theorem dX12_text_40 : decode cX12_text 40 = .ok (.aload_n 0, 1) := by decide +kernel
theorem dX12_text_41 : decode cX12_text 41 = .ok (.iconst (-1), 1) := by decide +kernel
theorem dX12_text_42 : decode cX12_text 42 = .ok (.putfield 193, 3) := by decide +kernel
theorem dX12_text_45 : decode cX12_text 45 = .ok (.iconst 0, 1) := by decide +kernel
theorem dX12_text_46 : decode cX12_text 46 = .ok (.istore_n 2, 1) := by decide +kernel
theorem dX12_text_47 : decode cX12_text 47 = .ok (.iload_n 2, 1) := by decide +kernel
theorem dX12_text_48 : decode cX12_text 48 = .ok (.bipush 7, 2) := by decide +kernel
theorem dX12_text_50 : decode cX12_text 50 = .ok (.if_icmp .ge 24, 3) := by decide +kernel
theorem dX12_text_53 : decode cX12_text 53 = .ok (.aload_n 0, 1) := by decide +kernel
theorem dX12_text_54 : decode cX12_text 54 = .ok (.iload_n 2, 1) := by decide +kernel
theorem dX12_text_55 : decode cX12_text 55 = .ok (.iload_n 2, 1) := by decide +kernel
theorem dX12_text_56 : decode cX12_text 56 = .ok (.ifCond .ne 8, 3) := by decide +kernel
theorem dX12_text_59 : decode cX12_text 59 = .ok (.bipush 20, 2) := by decide +kernel
theorem dX12_text_61 : decode cX12_text 61 = .ok (.goto 4, 3) := by decide +kernel
theorem dX12_text_64 : decode cX12_text 64 = .ok (.iconst 0, 1) := by decide +kernel
theorem dX12_text_65 : decode cX12_text 65 = .ok (.invokevirtual 226, 3) := by decide +kernel
theorem dX12_text_68 : decode cX12_text 68 = .ok (.iinc 2 1, 3) := by decide +kernel
theorem dX12_text_71 : decode cX12_text 71 = .ok (.goto (-24), 3) := by decide +kernel
theorem dX12_text_74 : decode cX12_text 74 = .ok (.iconst 3, 1) := by decide +kernel
theorem dX12_text_75 : decode cX12_text 75 = .ok (.istore_n 2, 1) := by decide +kernel
theorem dX12_text_76 : decode cX12_text 76 = .ok (.iload_n 2, 1) := by decide +kernel
theorem dX12_text_77 : decode cX12_text 77 = .ok (.bipush 6, 2) := by decide +kernel
theorem dX12_text_79 : decode cX12_text 79 = .ok (.if_icmp .ge 23, 3) := by decide +kernel
theorem dX12_text_82 : decode cX12_text 82 = .ok (.aload_n 0, 1) := by decide +kernel
theorem dX12_text_83 : decode cX12_text 83 = .ok (.getfield 49, 3) := by decide +kernel
theorem dX12_text_86 : decode cX12_text 86 = .ok (.iload_n 2, 1) := by decide +kernel
theorem dX12_text_87 : decode cX12_text 87 = .ok (.iconst 0, 1) := by decide +kernel
theorem dX12_text_88 : decode cX12_text 88 = .ok (.iastore, 1) := by decide +kernel
theorem dX12_text_89 : decode cX12_text 89 = .ok (.aload_n 0, 1) := by decide +kernel
theorem dX12_text_90 : decode cX12_text 90 = .ok (.getfield 52, 3) := by decide +kernel
theorem dX12_text_93 : decode cX12_text 93 = .ok (.iload_n 2, 1) := by decide +kernel
theorem dX12_text_94 : decode cX12_text 94 = .ok (.iconst 0, 1) := by decide +kernel
theorem dX12_text_95 : decode cX12_text 95 = .ok (.iastore, 1) := by decide +kernel
theorem dX12_text_96 : decode cX12_text 96 = .ok (.iinc 2 1, 3) := by decide +kernel
theorem dX12_text_99 : decode cX12_text 99 = .ok (.goto (-23), 3) := by decide +kernel
theorem dX12_text_102 : decode cX12_text 102 = .ok (.bipush 16, 2) := by decide +kernel
theorem dX12_text_104 : decode cX12_text 104 = .ok (.istore_n 2, 1) := by decide +kernel
theorem dX12_text_105 : decode cX12_text 105 = .ok (.iload_n 2, 1) := by decide +kernel
theorem dX12_text_106 : decode cX12_text 106 = .ok (.bipush 32, 2) := by decide +kernel
theorem dX12_text_108 : decode cX12_text 108 = .ok (.if_icmp .ge 16, 3) := by decide +kernel
theorem dX12_text_111 : decode cX12_text 111 = .ok (.aload_n 0, 1) := by decide +kernel
theorem dX12_text_112 : decode cX12_text 112 = .ok (.getfield 25, 3) := by decide +kernel
theorem dX12_text_115 : decode cX12_text 115 = .ok (.iload_n 2, 1) := by decide +kernel
theorem dX12_text_116 : decode cX12_text 116 = .ok (.iconst 0, 1) := by decide +kernel
theorem dX12_text_117 : decode cX12_text 117 = .ok (.iastore, 1) := by decide +kernel
theorem dX12_text_118 : decode cX12_text 118 = .ok (.iinc 2 1, 3) := by decide +kernel
theorem dX12_text_121 : decode cX12_text 121 = .ok (.goto (-16), 3) := by decide +kernel
theorem dX12_text_124 : decode cX12_text 124 = .ok (.aload_n 0, 1) := by decide +kernel
theorem dX12_text_125 : decode cX12_text 125 = .ok (.iconst 0, 1) := by decide +kernel
theorem dX12_text_126 : decode cX12_text 126 = .ok (.putfield 219, 3) := by decide +kernel
theorem dX12_text_129 : decode cX12_text 129 = .ok (.aload_n 0, 1) := by decide +kernel
theorem dX12_text_130 : decode cX12_text 130 = .ok (.iconst 0, 1) := by decide +kernel
theorem dX12_text_131 : decode cX12_text 131 = .ok (.putfield 213, 3) := by decide +kernel
theorem dX12_text_134 : decode cX12_text 134 = .ok (.aload_n 0, 1) := by decide +kernel
theorem dX12_text_135 : decode cX12_text 135 = .ok (.iconst 0, 1) := by decide +kernel
theorem dX12_text_136 : decode cX12_text 136 = .ok (.putfield 276, 3) := by decide +kernel
theorem dX12_text_139 : decode cX12_text 139 = .ok (.aload_n 0, 1) := by decide +kernel
theorem dX12_text_140 : decode cX12_text 140 = .ok (.iconst 0, 1) := by decide +kernel
theorem dX12_text_141 : decode cX12_text 141 = .ok (.putfield 249, 3) := by decide +kernel
theorem dX12_text_144 : decode cX12_text 144 = .ok (.aload_n 0, 1) := by decide +kernel
theorem dX12_text_145 : decode cX12_text 145 = .ok (.invokevirtual 196, 3) := by decide +kernel
theorem dX12_text_148 : decode cX12_text 148 = .ok (.aload_n 0, 1) := by decide +kernel
theorem dX12_text_149 : decode cX12_text 149 = .ok (.getfield 190, 3) := by decide +kernel
theorem dX12_text_152 : decode cX12_text 152 = .ok (.ifCond .ne 18, 3) := by decide +kernel
theorem dX12_text_155 : decode cX12_text 155 = .ok (.aload_n 0, 1) := by decide +kernel
theorem dX12_text_156 : decode cX12_text 156 = .ok (.getfield 155, 3) := by decide +kernel
theorem dX12_text_159 : decode cX12_text 159 = .ok (.iconst 4, 1) := by decide +kernel
theorem dX12_text_160 : decode cX12_text 160 = .ok (.if_icmp .eq 10, 3) := by decide +kernel
theorem dX12_text_163 : decode cX12_text 163 = .ok (.aload_n 0, 1) := by decide +kernel
theorem dX12_text_164 : decode cX12_text 164 = .ok (.invokevirtual 279, 3) := by decide +kernel
theorem dX12_text_167 : decode cX12_text 167 = .ok (.goto (-19), 3) := by decide +kernel
theorem dX12_text_170 : decode cX12_text 170 = .ok (.aload_n 0, 1) := by decide +kernel
theorem dX12_text_171 : decode cX12_text 171 = .ok (.aload_n 0, 1) := by decide +kernel
theorem dX12_text_172 : decode cX12_text 172 = .ok (.getfield 190, 3) := by decide +kernel
theorem dX12_text_175 : decode cX12_text 175 = .ok (.putfield 282, 3) := by decide +kernel
theorem dX12_text_178 : decode cX12_text 178 = .ok (.aload_n 0, 1) := by decide +kernel
theorem dX12_text_179 : decode cX12_text 179 = .ok (.aload_n 0, 1) := by decide +kernel
theorem dX12_text_180 : decode cX12_text 180 = .ok (.getfield 193, 3) := by decide +kernel
theorem dX12_text_183 : decode cX12_text 183 = .ok (.putfield 61, 3) := by decide +kernel
theorem dX12_text_186 : decode cX12_text 186 = .ok (.aload_n 0, 1) := by decide +kernel
theorem dX12_text_187 : decode cX12_text 187 = .ok (.getfield 190, 3) := by decide +kernel
theorem dX12_text_190 : decode cX12_text 190 = .ok (.ifCond .eq 5, 3) := by decide +kernel
theorem dX12_text_193 : decode cX12_text 193 = .ok (.iconst (-1), 1) := by decide +kernel
theorem dX12_text_194 : decode cX12_text 194 = .ok (.ireturn, 1) := by decide +kernel
theorem dX12_text_195 : decode cX12_text 195 = .ok (.aload_n 0, 1) := by decide +kernel
theorem dX12_text_196 : decode cX12_text 196 = .ok (.getfield 13, 3) := by decide +kernel
theorem dX12_text_199 : decode cX12_text 199 = .ok (.invokestatic 285, 3) := by decide +kernel
theorem dX12_text_202 : decode cX12_text 202 = .ok (.aload_n 0, 1) := by decide +kernel
theorem dX12_text_203 : decode cX12_text 203 = .ok (.getfield 16, 3) := by decide +kernel
theorem dX12_text_206 : decode cX12_text 206 = .ok (.invokestatic 285, 3) := by decide +kernel
theorem dX12_text_209 : decode cX12_text 209 = .ok (.aload_n 0, 1) := by decide +kernel
theorem dX12_text_210 : decode cX12_text 210 = .ok (.getfield 19, 3) := by decide +kernel
theorem dX12_text_213 : decode cX12_text 213 = .ok (.invokestatic 285, 3) := by decide +kernel
theorem dX12_text_216 : decode cX12_text 216 = .ok (.aload_n 0, 1) := by decide +kernel
theorem dX12_text_217 : decode cX12_text 217 = .ok (.getfield 22, 3) := by decide +kernel
theorem dX12_text_220 : decode cX12_text 220 = .ok (.invokestatic 285, 3) := by decide +kernel
theorem dX12_text_223 : decode cX12_text 223 = .ok (.aload_n 0, 1) := by decide +kernel
theorem dX12_text_224 : decode cX12_text 224 = .ok (.getfield 25, 3) := by decide +kernel
theorem dX12_text_227 : decode cX12_text 227 = .ok (.invokestatic 285, 3) := by decide +kernel
theorem dX12_text_230 : decode cX12_text 230 = .ok (.aload_n 0, 1) := by decide +kernel
theorem dX12_text_231 : decode cX12_text 231 = .ok (.getfield 28, 3) := by decide +kernel
theorem dX12_text_234 : decode cX12_text 234 = .ok (.invokestatic 285, 3) := by decide +kernel
theorem dX12_text_237 : decode cX12_text 237 = .ok (.aload_n 0, 1) := by decide +kernel
theorem dX12_text_238 : decode cX12_text 238 = .ok (.getfield 31, 3) := by decide +kernel
theorem dX12_text_241 : decode cX12_text 241 = .ok (.invokestatic 285, 3) := by decide +kernel
theorem dX12_text_244 : decode cX12_text 244 = .ok (.aload_n 0, 1) := by decide +kernel
theorem dX12_text_245 : decode cX12_text 245 = .ok (.getfield 34, 3) := by decide +kernel
theorem dX12_text_248 : decode cX12_text 248 = .ok (.invokestatic 285, 3) := by decide +kernel
theorem dX12_text_251 : decode cX12_text 251 = .ok (.aload_n 0, 1) := by decide +kernel
theorem dX12_text_252 : decode cX12_text 252 = .ok (.getfield 37, 3) := by decide +kernel
theorem dX12_text_255 : decode cX12_text 255 = .ok (.invokestatic 285, 3) := by decide +kernel
theorem dX12_text_258 : decode cX12_text 258 = .ok (.aload_n 0, 1) := by decide +kernel
theorem dX12_text_259 : decode cX12_text 259 = .ok (.getfield 40, 3) := by decide +kernel
theorem dX12_text_262 : decode cX12_text 262 = .ok (.invokestatic 285, 3) := by decide +kernel
theorem dX12_text_265 : decode cX12_text 265 = .ok (.aload_n 0, 1) := by decide +kernel
theorem dX12_text_266 : decode cX12_text 266 = .ok (.getfield 43, 3) := by decide +kernel
theorem dX12_text_269 : decode cX12_text 269 = .ok (.invokestatic 285, 3) := by decide +kernel
theorem dX12_text_272 : decode cX12_text 272 = .ok (.aload_n 0, 1) := by decide +kernel
theorem dX12_text_273 : decode cX12_text 273 = .ok (.getfield 46, 3) := by decide +kernel
theorem dX12_text_276 : decode cX12_text 276 = .ok (.invokestatic 285, 3) := by decide +kernel
theorem dX12_text_279 : decode cX12_text 279 = .ok (.aload_n 0, 1) := by decide +kernel
theorem dX12_text_280 : decode cX12_text 280 = .ok (.getfield 49, 3) := by decide +kernel
theorem dX12_text_283 : decode cX12_text 283 = .ok (.invokestatic 285, 3) := by decide +kernel
theorem dX12_text_286 : decode cX12_text 286 = .ok (.aload_n 0, 1) := by decide +kernel
theorem dX12_text_287 : decode cX12_text 287 = .ok (.getfield 52, 3) := by decide +kernel
theorem dX12_text_290 : decode cX12_text 290 = .ok (.invokestatic 285, 3) := by decide +kernel
theorem dX12_text_293 : decode cX12_text 293 = .ok (.aload_n 0, 1) := by decide +kernel
theorem dX12_text_294 : decode cX12_text 294 = .ok (.getfield 55, 3) := by decide +kernel
theorem dX12_text_297 : decode cX12_text 297 = .ok (.invokestatic 285, 3) := by decide +kernel
theorem dX12_text_300 : decode cX12_text 300 = .ok (.aload_n 0, 1) := by decide +kernel
theorem dX12_text_301 : decode cX12_text 301 = .ok (.getfield 58, 3) := by decide +kernel
theorem dX12_text_304 : decode cX12_text 304 = .ok (.invokestatic 285, 3) := by decide +kernel
theorem dX12_text_307 : decode cX12_text 307 = .ok (.aload_n 0, 1) := by decide +kernel
theorem dX12_text_308 : decode cX12_text 308 = .ok (.iconst 0, 1) := by decide +kernel
theorem dX12_text_309 : decode cX12_text 309 = .ok (.putfield 289, 3) := by decide +kernel
theorem dX12_text_312 : decode cX12_text 312 = .ok (.aload_n 0, 1) := by decide +kernel
theorem dX12_text_313 : decode cX12_text 313 = .ok (.iconst (-1), 1) := by decide +kernel
theorem dX12_text_314 : decode cX12_text 314 = .ok (.putfield 105, 3) := by decide +kernel
theorem dX12_text_317 : decode cX12_text 317 = .ok (.aload_n 0, 1) := by decide +kernel
theorem dX12_text_318 : decode cX12_text 318 = .ok (.iconst 0, 1) := by decide +kernel
theorem dX12_text_319 : decode cX12_text 319 = .ok (.putfield 292, 3) := by decide +kernel
theorem dX12_text_322 : decode cX12_text 322 = .ok (.aload_n 0, 1) := by decide +kernel
theorem dX12_text_323 : decode cX12_text 323 = .ok (.iconst 0, 1) := by decide +kernel
theorem dX12_text_324 : decode cX12_text 324 = .ok (.putfield 296, 3) := by decide +kernel
theorem dX12_text_327 : decode cX12_text 327 = .ok (.aload_n 0, 1) := by decide +kernel
theorem dX12_text_328 : decode cX12_text 328 = .ok (.invokevirtual 133, 3) := by decide +kernel
theorem dX12_text_331 : decode cX12_text 331 = .ok (.aload_n 0, 1) := by decide +kernel
theorem dX12_text_332 : decode cX12_text 332 = .ok (.getfield 213, 3) := by decide +kernel
theorem dX12_text_335 : decode cX12_text 335 = .ok (.ireturn, 1) := by decide +kernel
theorem dX12_fault_0 : decode cX12_fault 0 = .ok (.aload_n 0, 1) := by decide +kernel
theorem dX12_fault_1 : decode cX12_fault 1 = .ok (.iconst 0, 1) := by decide +kernel
theorem dX12_fault_2 : decode cX12_fault 2 = .ok (.putfield 136, 3) := by decide +kernel
theorem dX12_fault_5 : decode cX12_fault 5 = .ok (.iload_n 1, 1) := by decide +kernel
theorem dX12_fault_6 : decode cX12_fault 6 = .ok (.ifCond .ne 10, 3) := by decide +kernel
theorem dX12_fault_9 : decode cX12_fault 9 = .ok (.aload_n 0, 1) := by decide +kernel
theorem dX12_fault_10 : decode cX12_fault 10 = .ok (.getfield 282, 3) := by decide +kernel
theorem dX12_fault_13 : decode cX12_fault 13 = .ok (.goto 16, 3) := by decide +kernel
theorem dX12_fault_16 : decode cX12_fault 16 = .ok (.iload_n 1, 1) := by decide +kernel
theorem dX12_fault_17 : decode cX12_fault 17 = .ok (.iconst 1, 1) := by decide +kernel
theorem dX12_fault_18 : decode cX12_fault 18 = .ok (.if_icmp .ne 10, 3) := by decide +kernel
theorem dX12_fault_21 : decode cX12_fault 21 = .ok (.aload_n 0, 1) := by decide +kernel
theorem dX12_fault_22 : decode cX12_fault 22 = .ok (.getfield 61, 3) := by decide +kernel
theorem dX12_fault_25 : decode cX12_fault 25 = .ok (.goto 4, 3) := by decide +kernel
theorem dX12_fault_28 : decode cX12_fault 28 = .ok (.iconst (-1), 1) := by decide +kernel
theorem dX12_fault_29 : decode cX12_fault 29 = .ok (.ireturn, 1) := by decide +kernel
