theorem dX12_named_0 : decode cX12_named 0 = .ok (.aload_n 0, 1) := by decide +kernel
theorem dX12_named_1 : decode cX12_named 1 = .ok (.iconst 0, 1) := by decide +kernel
theorem dX12_named_2 : decode cX12_named 2 = .ok (.putfield 136, 3) := by decide +kernel
theorem dX12_named_5 : decode cX12_named 5 = .ok (.iload_n 1, 1) := by decide +kernel
theorem dX12_named_6 : decode cX12_named 6 = .ok (.lookupswitch 58 #[(0, 26), (1, 42)], 26) := by decide +kernel
theorem dX12_named_32 : decode cX12_named 32 = .ok (.aload_n 0, 1) := by decide +kernel
theorem dX12_named_33 : decode cX12_named 33 = .ok (.getfield 16, 3) := by decide +kernel
theorem dX12_named_36 : decode cX12_named 36 = .ok (.iconst 0, 1) := by decide +kernel
theorem dX12_named_37 : decode cX12_named 37 = .ok (.aload_n 0, 1) := by decide +kernel
theorem dX12_named_38 : decode cX12_named 38 = .ok (.getfield 13, 3) := by decide +kernel
theorem dX12_named_41 : decode cX12_named 41 = .ok (.iconst 1, 1) := by decide +kernel
theorem dX12_named_42 : decode cX12_named 42 = .ok (.iaload, 1) := by decide +kernel
theorem dX12_named_43 : decode cX12_named 43 = .ok (.iload_n 2, 1) := by decide +kernel
theorem dX12_named_44 : decode cX12_named 44 = .ok (.invokestatic 202, 3) := by decide +kernel
theorem dX12_named_47 : decode cX12_named 47 = .ok (.ireturn, 1) := by decide +kernel
theorem dX12_named_48 : decode cX12_named 48 = .ok (.aload_n 0, 1) := by decide +kernel
theorem dX12_named_49 : decode cX12_named 49 = .ok (.getfield 28, 3) := by decide +kernel
theorem dX12_named_52 : decode cX12_named 52 = .ok (.iconst 0, 1) := by decide +kernel
theorem dX12_named_53 : decode cX12_named 53 = .ok (.aload_n 0, 1) := by decide +kernel
theorem dX12_named_54 : decode cX12_named 54 = .ok (.getfield 13, 3) := by decide +kernel
theorem dX12_named_57 : decode cX12_named 57 = .ok (.iconst 2, 1) := by decide +kernel
theorem dX12_named_58 : decode cX12_named 58 = .ok (.iaload, 1) := by decide +kernel
theorem dX12_named_59 : decode cX12_named 59 = .ok (.iload_n 2, 1) := by decide +kernel
theorem dX12_named_60 : decode cX12_named 60 = .ok (.invokestatic 202, 3) := by decide +kernel
theorem dX12_named_63 : decode cX12_named 63 = .ok (.ireturn, 1) := by decide +kernel
theorem dX12_named_64 : decode cX12_named 64 = .ok (.iconst (-1), 1) := by decide +kernel
theorem dX12_named_65 : decode cX12_named 65 = .ok (.ireturn, 1) := by decide +kernel
theorem dX12_is_0 : decode cX12_is 0 = .ok (.iload_n 0, 1) := by decide +kernel
theorem dX12_is_1 : decode cX12_is 1 = .ok (.ifCond .eq 7, 3) := by decide +kernel
theorem dX12_is_4 : decode cX12_is 4 = .ok (.lconst 1, 1) := by decide +kernel
theorem dX12_is_5 : decode cX12_is 5 = .ok (.goto 4, 3) := by decide +kernel
theorem dX12_is_8 : decode cX12_is 8 = .ok (.lconst 0, 1) := by decide +kernel
theorem dX12_is_9 : decode cX12_is 9 = .ok (.lreturn, 1) := by decide +kernel
theorem dX12_works_0 : decode cX12_works 0 = .ok (.aload_n 0, 1) := by decide +kernel
theorem dX12_works_1 : decode cX12_works 1 = .ok (.getfield 69, 3) := by decide +kernel
theorem dX12_works_4 : decode cX12_works 4 = .ok (.aload_n 0, 1) := by decide +kernel
theorem dX12_works_5 : decode cX12_works 5 = .ok (.getfield 299, 3) := by decide +kernel
theorem dX12_works_8 : decode cX12_works 8 = .ok (.iconst 1, 1) := by decide +kernel
theorem dX12_works_9 : decode cX12_works 9 = .ok (.isub, 1) := by decide +kernel
theorem dX12_works_10 : decode cX12_works 10 = .ok (.laload, 1) := by decide +kernel
theorem dX12_works_11 : decode cX12_works 11 = .ok (.lstore_n 2, 1) := by decide +kernel
theorem dX12_works_12 : decode cX12_works 12 = .ok (.iload_n 1, 1) := by decide +kernel
theorem dX12_works_13 : decode cX12_works 13 = .ok (.sipush 260, 3) := by decide +kernel
theorem dX12_works_16 : decode cX12_works 16 = .ok (.if_icmp .ne 30, 3) := by decide +kernel
theorem dX12_works_19 : decode cX12_works 19 = .ok (.aload_n 0, 1) := by decide +kernel
theorem dX12_works_20 : decode cX12_works 20 = .ok (.getfield 69, 3) := by decide +kernel
theorem dX12_works_23 : decode cX12_works 23 = .ok (.aload_n 0, 1) := by decide +kernel
theorem dX12_works_24 : decode cX12_works 24 = .ok (.getfield 299, 3) := by decide +kernel
theorem dX12_works_27 : decode cX12_works 27 = .ok (.iconst 1, 1) := by decide +kernel
theorem dX12_works_28 : decode cX12_works 28 = .ok (.isub, 1) := by decide +kernel
theorem dX12_works_29 : decode cX12_works 29 = .ok (.lload_n 2, 1) := by decide +kernel
theorem dX12_works_30 : decode cX12_works 30 = .ok (.lconst 0, 1) := by decide +kernel
theorem dX12_works_31 : decode cX12_works 31 = .ok (.lcmp, 1) := by decide +kernel
theorem dX12_works_32 : decode cX12_works 32 = .ok (.ifCond .ne 7, 3) := by decide +kernel
theorem dX12_works_35 : decode cX12_works 35 = .ok (.iconst 1, 1) := by decide +kernel
theorem dX12_works_36 : decode cX12_works 36 = .ok (.goto 4, 3) := by decide +kernel
theorem dX12_works_39 : decode cX12_works 39 = .ok (.iconst 0, 1) := by decide +kernel
theorem dX12_works_40 : decode cX12_works 40 = .ok (.invokestatic 302, 3) := by decide +kernel
theorem dX12_works_43 : decode cX12_works 43 = .ok (.lastore, 1) := by decide +kernel
theorem dX12_works_44 : decode cX12_works 44 = .ok (.iconst 1, 1) := by decide +kernel
theorem dX12_works_45 : decode cX12_works 45 = .ok (.ireturn, 1) := by decide +kernel
theorem dX12_works_46 : decode cX12_works 46 = .ok (.aload_n 0, 1) := by decide +kernel
theorem dX12_works_47 : decode cX12_works 47 = .ok (.getfield 69, 3) := by decide +kernel
theorem dX12_works_50 : decode cX12_works 50 = .ok (.aload_n 0, 1) := by decide +kernel
theorem dX12_works_51 : decode cX12_works 51 = .ok (.getfield 299, 3) := by decide +kernel
theorem dX12_works_54 : decode cX12_works 54 = .ok (.iconst 2, 1) := by decide +kernel
theorem dX12_works_55 : decode cX12_works 55 = .ok (.isub, 1) := by decide +kernel
theorem dX12_works_56 : decode cX12_works 56 = .ok (.laload, 1) := by decide +kernel
theorem dX12_works_57 : decode cX12_works 57 = .ok (.lstore 4, 2) := by decide +kernel
theorem dX12_works_59 : decode cX12_works 59 = .ok (.aload_n 0, 1) := by decide +kernel
theorem dX12_works_60 : decode cX12_works 60 = .ok (.dup, 1) := by decide +kernel
theorem dX12_works_61 : decode cX12_works 61 = .ok (.getfield 299, 3) := by decide +kernel
theorem dX12_works_64 : decode cX12_works 64 = .ok (.iconst 1, 1) := by decide +kernel
theorem dX12_works_65 : decode cX12_works 65 = .ok (.isub, 1) := by decide +kernel
theorem dX12_works_66 : decode cX12_works 66 = .ok (.putfield 299, 3) := by decide +kernel
theorem dX12_works_69 : decode cX12_works 69 = .ok (.iload_n 1, 1) := by decide +kernel
theorem dX12_works_70 : decode cX12_works 70 = .ok (.lookupswitch 314 #[(42, 116), (43, 98), (45, 107), (47, 151), (60, 168), (61, 208), (62, 188), (256, 228), (257, 268), (258, 248), (261, 288)], 98) := by decide +kernel
theorem dX12_works_168 : decode cX12_works 168 = .ok (.lload 4, 2) := by decide +kernel
theorem dX12_works_170 : decode cX12_works 170 = .ok (.lload_n 2, 1) := by decide +kernel
theorem dX12_works_171 : decode cX12_works 171 = .ok (.ladd, 1) := by decide +kernel
theorem dX12_works_172 : decode cX12_works 172 = .ok (.lstore 6, 2) := by decide +kernel
theorem dX12_works_174 : decode cX12_works 174 = .ok (.goto 233, 3) := by decide +kernel
theorem dX12_works_177 : decode cX12_works 177 = .ok (.lload 4, 2) := by decide +kernel
theorem dX12_works_179 : decode cX12_works 179 = .ok (.lload_n 2, 1) := by decide +kernel
theorem dX12_works_180 : decode cX12_works 180 = .ok (.lsub, 1) := by decide +kernel
theorem dX12_works_181 : decode cX12_works 181 = .ok (.lstore 6, 2) := by decide +kernel
theorem dX12_works_183 : decode cX12_works 183 = .ok (.goto 224, 3) := by decide +kernel
theorem dX12_works_186 : decode cX12_works 186 = .ok (.lload 4, 2) := by decide +kernel
theorem dX12_works_188 : decode cX12_works 188 = .ok (.lconst 0, 1) := by decide +kernel
theorem dX12_works_189 : decode cX12_works 189 = .ok (.lcmp, 1) := by decide +kernel
theorem dX12_works_190 : decode cX12_works 190 = .ok (.ifCond .eq 22, 3) := by decide +kernel
theorem dX12_works_193 : decode cX12_works 193 = .ok (.lload_n 2, 1) := by decide +kernel
theorem dX12_works_194 : decode cX12_works 194 = .ok (.invokestatic 306, 3) := by decide +kernel
theorem dX12_works_197 : decode cX12_works 197 = .ok (.ldc2_w 312, 3) := by decide +kernel
theorem dX12_works_200 : decode cX12_works 200 = .ok (.lload 4, 2) := by decide +kernel
theorem dX12_works_202 : decode cX12_works 202 = .ok (.invokestatic 306, 3) := by decide +kernel
theorem dX12_works_205 : decode cX12_works 205 = .ok (.ldiv, 1) := by decide +kernel
theorem dX12_works_206 : decode cX12_works 206 = .ok (.lcmp, 1) := by decide +kernel
theorem dX12_works_207 : decode cX12_works 207 = .ok (.ifCond .le 5, 3) := by decide +kernel
theorem dX12_works_210 : decode cX12_works 210 = .ok (.iconst 0, 1) := by decide +kernel
theorem dX12_works_211 : decode cX12_works 211 = .ok (.ireturn, 1) := by decide +kernel
theorem dX12_works_212 : decode cX12_works 212 = .ok (.lload 4, 2) := by decide +kernel
theorem dX12_works_214 : decode cX12_works 214 = .ok (.lload_n 2, 1) := by decide +kernel
theorem dX12_works_215 : decode cX12_works 215 = .ok (.lmul, 1) := by decide +kernel
theorem dX12_works_216 : decode cX12_works 216 = .ok (.lstore 6, 2) := by decide +kernel
theorem dX12_works_218 : decode cX12_works 218 = .ok (.goto 189, 3) := by decide +kernel
theorem dX12_works_221 : decode cX12_works 221 = .ok (.lload_n 2, 1) := by decide +kernel
theorem dX12_works_222 : decode cX12_works 222 = .ok (.lconst 0, 1) := by decide +kernel
theorem dX12_works_223 : decode cX12_works 223 = .ok (.lcmp, 1) := by decide +kernel
theorem dX12_works_224 : decode cX12_works 224 = .ok (.ifCond .ne 5, 3) := by decide +kernel
theorem dX12_works_227 : decode cX12_works 227 = .ok (.iconst 0, 1) := by decide +kernel
theorem dX12_works_228 : decode cX12_works 228 = .ok (.ireturn, 1) := by decide +kernel
theorem dX12_works_229 : decode cX12_works 229 = .ok (.lload 4, 2) := by decide +kernel
theorem dX12_works_231 : decode cX12_works 231 = .ok (.lload_n 2, 1) := by decide +kernel
theorem dX12_works_232 : decode cX12_works 232 = .ok (.ldiv, 1) := by decide +kernel
theorem dX12_works_233 : decode cX12_works 233 = .ok (.lstore 6, 2) := by decide +kernel
theorem dX12_works_235 : decode cX12_works 235 = .ok (.goto 172, 3) := by decide +kernel
theorem dX12_works_238 : decode cX12_works 238 = .ok (.lload 4, 2) := by decide +kernel
theorem dX12_works_240 : decode cX12_works 240 = .ok (.lload_n 2, 1) := by decide +kernel
theorem dX12_works_241 : decode cX12_works 241 = .ok (.lcmp, 1) := by decide +kernel
theorem dX12_works_242 : decode cX12_works 242 = .ok (.ifCond .ge 7, 3) := by decide +kernel
theorem dX12_works_245 : decode cX12_works 245 = .ok (.iconst 1, 1) := by decide +kernel
theorem dX12_works_246 : decode cX12_works 246 = .ok (.goto 4, 3) := by decide +kernel
theorem dX12_works_249 : decode cX12_works 249 = .ok (.iconst 0, 1) := by decide +kernel
theorem dX12_works_250 : decode cX12_works 250 = .ok (.invokestatic 302, 3) := by decide +kernel
theorem dX12_works_253 : decode cX12_works 253 = .ok (.lstore 6, 2) := by decide +kernel
theorem dX12_works_255 : decode cX12_works 255 = .ok (.goto 152, 3) := by decide +kernel
theorem dX12_works_258 : decode cX12_works 258 = .ok (.lload 4, 2) := by decide +kernel
theorem dX12_works_260 : decode cX12_works 260 = .ok (.lload_n 2, 1) := by decide +kernel
theorem dX12_works_261 : decode cX12_works 261 = .ok (.lcmp, 1) := by decide +kernel
theorem dX12_works_262 : decode cX12_works 262 = .ok (.ifCond .le 7, 3) := by decide +kernel
theorem dX12_works_265 : decode cX12_works 265 = .ok (.iconst 1, 1) := by decide +kernel
theorem dX12_works_266 : decode cX12_works 266 = .ok (.goto 4, 3) := by decide +kernel
theorem dX12_works_269 : decode cX12_works 269 = .ok (.iconst 0, 1) := by decide +kernel
theorem dX12_works_270 : decode cX12_works 270 = .ok (.invokestatic 302, 3) := by decide +kernel
theorem dX12_works_273 : decode cX12_works 273 = .ok (.lstore 6, 2) := by decide +kernel
theorem dX12_works_275 : decode cX12_works 275 = .ok (.goto 132, 3) := by decide +kernel
theorem dX12_works_278 : decode cX12_works 278 = .ok (.lload 4, 2) := by decide +kernel
theorem dX12_works_280 : decode cX12_works 280 = .ok (.lload_n 2, 1) := by decide +kernel
theorem dX12_works_281 : decode cX12_works 281 = .ok (.lcmp, 1) := by decide +kernel
theorem dX12_works_282 : decode cX12_works 282 = .ok (.ifCond .ne 7, 3) := by decide +kernel
theorem dX12_works_285 : decode cX12_works 285 = .ok (.iconst 1, 1) := by decide +kernel
theorem dX12_works_286 : decode cX12_works 286 = .ok (.goto 4, 3) := by decide +kernel
theorem dX12_works_289 : decode cX12_works 289 = .ok (.iconst 0, 1) := by decide +kernel
theorem dX12_works_290 : decode cX12_works 290 = .ok (.invokestatic 302, 3) := by decide +kernel
theorem dX12_works_293 : decode cX12_works 293 = .ok (.lstore 6, 2) := by decide +kernel
theorem dX12_works_295 : decode cX12_works 295 = .ok (.goto 112, 3) := by decide +kernel
theorem dX12_works_298 : decode cX12_works 298 = .ok (.lload 4, 2) := by decide +kernel
theorem dX12_works_300 : decode cX12_works 300 = .ok (.lload_n 2, 1) := by decide +kernel
theorem dX12_works_301 : decode cX12_works 301 = .ok (.lcmp, 1) := by decide +kernel
theorem dX12_works_302 : decode cX12_works 302 = .ok (.ifCond .gt 7, 3) := by decide +kernel
theorem dX12_works_305 : decode cX12_works 305 = .ok (.iconst 1, 1) := by decide +kernel
theorem dX12_works_306 : decode cX12_works 306 = .ok (.goto 4, 3) := by decide +kernel
theorem dX12_works_309 : decode cX12_works 309 = .ok (.iconst 0, 1) := by decide +kernel
theorem dX12_works_310 : decode cX12_works 310 = .ok (.invokestatic 302, 3) := by decide +kernel
theorem dX12_works_313 : decode cX12_works 313 = .ok (.lstore 6, 2) := by decide +kernel
theorem dX12_works_315 : decode cX12_works 315 = .ok (.goto 92, 3) := by decide +kernel
theorem dX12_works_318 : decode cX12_works 318 = .ok (.lload 4, 2) := by decide +kernel
theorem dX12_works_320 : decode cX12_works 320 = .ok (.lload_n 2, 1) := by decide +kernel
theorem dX12_works_321 : decode cX12_works 321 = .ok (.lcmp, 1) := by decide +kernel
theorem dX12_works_322 : decode cX12_works 322 = .ok (.ifCond .lt 7, 3) := by decide +kernel
theorem dX12_works_325 : decode cX12_works 325 = .ok (.iconst 1, 1) := by decide +kernel
theorem dX12_works_326 : decode cX12_works 326 = .ok (.goto 4, 3) := by decide +kernel
theorem dX12_works_329 : decode cX12_works 329 = .ok (.iconst 0, 1) := by decide +kernel
theorem dX12_works_330 : decode cX12_works 330 = .ok (.invokestatic 302, 3) := by decide +kernel
theorem dX12_works_333 : decode cX12_works 333 = .ok (.lstore 6, 2) := by decide +kernel
theorem dX12_works_335 : decode cX12_works 335 = .ok (.goto 72, 3) := by decide +kernel
theorem dX12_works_338 : decode cX12_works 338 = .ok (.lload 4, 2) := by decide +kernel
theorem dX12_works_340 : decode cX12_works 340 = .ok (.lload_n 2, 1) := by decide +kernel
theorem dX12_works_341 : decode cX12_works 341 = .ok (.lcmp, 1) := by decide +kernel
theorem dX12_works_342 : decode cX12_works 342 = .ok (.ifCond .eq 7, 3) := by decide +kernel
theorem dX12_works_345 : decode cX12_works 345 = .ok (.iconst 1, 1) := by decide +kernel
theorem dX12_works_346 : decode cX12_works 346 = .ok (.goto 4, 3) := by decide +kernel
theorem dX12_works_349 : decode cX12_works 349 = .ok (.iconst 0, 1) := by decide +kernel
theorem dX12_works_350 : decode cX12_works 350 = .ok (.invokestatic 302, 3) := by decide +kernel
theorem dX12_works_353 : decode cX12_works 353 = .ok (.lstore 6, 2) := by decide +kernel
theorem dX12_works_355 : decode cX12_works 355 = .ok (.goto 52, 3) := by decide +kernel
theorem dX12_works_358 : decode cX12_works 358 = .ok (.lload 4, 2) := by decide +kernel
theorem dX12_works_360 : decode cX12_works 360 = .ok (.lconst 0, 1) := by decide +kernel
theorem dX12_works_361 : decode cX12_works 361 = .ok (.lcmp, 1) := by decide +kernel
theorem dX12_works_362 : decode cX12_works 362 = .ok (.ifCond .eq 13, 3) := by decide +kernel
theorem dX12_works_365 : decode cX12_works 365 = .ok (.lload_n 2, 1) := by decide +kernel
theorem dX12_works_366 : decode cX12_works 366 = .ok (.lconst 0, 1) := by decide +kernel
theorem dX12_works_367 : decode cX12_works 367 = .ok (.lcmp, 1) := by decide +kernel
theorem dX12_works_368 : decode cX12_works 368 = .ok (.ifCond .eq 7, 3) := by decide +kernel
theorem dX12_works_371 : decode cX12_works 371 = .ok (.iconst 1, 1) := by decide +kernel
theorem dX12_works_372 : decode cX12_works 372 = .ok (.goto 4, 3) := by decide +kernel
theorem dX12_works_375 : decode cX12_works 375 = .ok (.iconst 0, 1) := by decide +kernel
theorem dX12_works_376 : decode cX12_works 376 = .ok (.invokestatic 302, 3) := by decide +kernel
theorem dX12_works_379 : decode cX12_works 379 = .ok (.lstore 6, 2) := by decide +kernel
theorem dX12_works_381 : decode cX12_works 381 = .ok (.goto 26, 3) := by decide +kernel
theorem dX12_works_384 : decode cX12_works 384 = .ok (.lload 4, 2) := by decide +kernel
theorem dX12_works_386 : decode cX12_works 386 = .ok (.lconst 0, 1) := by decide +kernel
theorem dX12_works_387 : decode cX12_works 387 = .ok (.lcmp, 1) := by decide +kernel
theorem dX12_works_388 : decode cX12_works 388 = .ok (.ifCond .ne 9, 3) := by decide +kernel
theorem dX12_works_391 : decode cX12_works 391 = .ok (.lload_n 2, 1) := by decide +kernel
theorem dX12_works_392 : decode cX12_works 392 = .ok (.lconst 0, 1) := by decide +kernel
theorem dX12_works_393 : decode cX12_works 393 = .ok (.lcmp, 1) := by decide +kernel
theorem dX12_works_394 : decode cX12_works 394 = .ok (.ifCond .eq 7, 3) := by decide +kernel
theorem dX12_works_397 : decode cX12_works 397 = .ok (.iconst 1, 1) := by decide +kernel
theorem dX12_works_398 : decode cX12_works 398 = .ok (.goto 4, 3) := by decide +kernel
theorem dX12_works_401 : decode cX12_works 401 = .ok (.iconst 0, 1) := by decide +kernel
theorem dX12_works_402 : decode cX12_works 402 = .ok (.invokestatic 302, 3) := by decide +kernel
theorem dX12_works_405 : decode cX12_works 405 = .ok (.lstore 6, 2) := by decide +kernel
theorem dX12_works_407 : decode cX12_works 407 = .ok (.aload_n 0, 1) := by decide +kernel
theorem dX12_works_408 : decode cX12_works 408 = .ok (.getfield 69, 3) := by decide +kernel
theorem dX12_works_411 : decode cX12_works 411 = .ok (.aload_n 0, 1) := by decide +kernel
theorem dX12_works_412 : decode cX12_works 412 = .ok (.getfield 299, 3) := by decide +kernel
theorem dX12_works_415 : decode cX12_works 415 = .ok (.iconst 1, 1) := by decide +kernel
theorem dX12_works_416 : decode cX12_works 416 = .ok (.isub, 1) := by decide +kernel
theorem dX12_works_417 : decode cX12_works 417 = .ok (.lload 6, 2) := by decide +kernel
theorem dX12_works_419 : decode cX12_works 419 = .ok (.lastore, 1) := by decide +kernel
theorem dX12_works_420 : decode cX12_works 420 = .ok (.lload 6, 2) := by decide +kernel
theorem dX12_works_422 : decode cX12_works 422 = .ok (.ldc2_w 312, 3) := by decide +kernel
theorem dX12_works_425 : decode cX12_works 425 = .ok (.lcmp, 1) := by decide +kernel
theorem dX12_works_426 : decode cX12_works 426 = .ok (.ifCond .gt 16, 3) := by decide +kernel
theorem dX12_works_429 : decode cX12_works 429 = .ok (.lload 6, 2) := by decide +kernel
theorem dX12_works_431 : decode cX12_works 431 = .ok (.ldc2_w 314, 3) := by decide +kernel
theorem dX12_works_434 : decode cX12_works 434 = .ok (.lcmp, 1) := by decide +kernel
theorem dX12_works_435 : decode cX12_works 435 = .ok (.ifCond .lt 7, 3) := by decide +kernel
theorem dX12_works_438 : decode cX12_works 438 = .ok (.iconst 1, 1) := by decide +kernel
theorem dX12_works_439 : decode cX12_works 439 = .ok (.goto 4, 3) := by decide +kernel
theorem dX12_works_442 : decode cX12_works 442 = .ok (.iconst 0, 1) := by decide +kernel
theorem dX12_works_443 : decode cX12_works 443 = .ok (.ireturn, 1) := by decide +kernel
theorem dX12_goes_0 : decode cX12_goes 0 = .ok (.aload_n 0, 1) := by decide +kernel
theorem dX12_goes_1 : decode cX12_goes 1 = .ok (.iconst 0, 1) := by decide +kernel
theorem dX12_goes_2 : decode cX12_goes 2 = .ok (.putfield 299, 3) := by decide +kernel
theorem dX12_goes_5 : decode cX12_goes 5 = .ok (.aload_n 0, 1) := by decide +kernel
theorem dX12_goes_6 : decode cX12_goes 6 = .ok (.getfield 49, 3) := by decide +kernel
theorem dX12_goes_9 : decode cX12_goes 9 = .ok (.iload_n 1, 1) := by decide +kernel
theorem dX12_goes_10 : decode cX12_goes 10 = .ok (.iaload, 1) := by decide +kernel
theorem dX12_goes_11 : decode cX12_goes 11 = .ok (.istore_n 2, 1) := by decide +kernel
theorem dX12_goes_12 : decode cX12_goes 12 = .ok (.iload_n 2, 1) := by decide +kernel
theorem dX12_goes_13 : decode cX12_goes 13 = .ok (.aload_n 0, 1) := by decide +kernel
theorem dX12_goes_14 : decode cX12_goes 14 = .ok (.getfield 52, 3) := by decide +kernel
theorem dX12_goes_17 : decode cX12_goes 17 = .ok (.iload_n 1, 1) := by decide +kernel
theorem dX12_goes_18 : decode cX12_goes 18 = .ok (.iaload, 1) := by decide +kernel
theorem dX12_goes_19 : decode cX12_goes 19 = .ok (.if_icmp .ge 83, 3) := by decide +kernel
theorem dX12_goes_22 : decode cX12_goes 22 = .ok (.aload_n 0, 1) := by decide +kernel
theorem dX12_goes_23 : decode cX12_goes 23 = .ok (.getfield 55, 3) := by decide +kernel
theorem dX12_goes_26 : decode cX12_goes 26 = .ok (.iload_n 2, 1) := by decide +kernel
theorem dX12_goes_27 : decode cX12_goes 27 = .ok (.iaload, 1) := by decide +kernel
theorem dX12_goes_28 : decode cX12_goes 28 = .ok (.iconst 2, 1) := by decide +kernel
theorem dX12_goes_29 : decode cX12_goes 29 = .ok (.if_icmp .ne 18, 3) := by decide +kernel
theorem dX12_goes_32 : decode cX12_goes 32 = .ok (.aload_n 0, 1) := by decide +kernel
theorem dX12_goes_33 : decode cX12_goes 33 = .ok (.aload_n 0, 1) := by decide +kernel
theorem dX12_goes_34 : decode cX12_goes 34 = .ok (.getfield 58, 3) := by decide +kernel
theorem dX12_goes_37 : decode cX12_goes 37 = .ok (.iload_n 2, 1) := by decide +kernel
theorem dX12_goes_38 : decode cX12_goes 38 = .ok (.iaload, 1) := by decide +kernel
theorem dX12_goes_39 : decode cX12_goes 39 = .ok (.invokevirtual 316, 3) := by decide +kernel
theorem dX12_goes_42 : decode cX12_goes 42 = .ok (.ifCond .ne 54, 3) := by decide +kernel
theorem dX12_goes_45 : decode cX12_goes 45 = .ok (.iconst 0, 1) := by decide +kernel
theorem dX12_goes_46 : decode cX12_goes 46 = .ok (.ireturn, 1) := by decide +kernel
theorem dX12_goes_47 : decode cX12_goes 47 = .ok (.aload_n 0, 1) := by decide +kernel
theorem dX12_goes_48 : decode cX12_goes 48 = .ok (.getfield 69, 3) := by decide +kernel
theorem dX12_goes_51 : decode cX12_goes 51 = .ok (.aload_n 0, 1) := by decide +kernel
theorem dX12_goes_52 : decode cX12_goes 52 = .ok (.getfield 299, 3) := by decide +kernel
theorem dX12_goes_55 : decode cX12_goes 55 = .ok (.aload_n 0, 1) := by decide +kernel
theorem dX12_goes_56 : decode cX12_goes 56 = .ok (.getfield 55, 3) := by decide +kernel
theorem dX12_goes_59 : decode cX12_goes 59 = .ok (.iload_n 2, 1) := by decide +kernel
theorem dX12_goes_60 : decode cX12_goes 60 = .ok (.iaload, 1) := by decide +kernel
theorem dX12_goes_61 : decode cX12_goes 61 = .ok (.ifCond .ne 13, 3) := by decide +kernel
theorem dX12_goes_64 : decode cX12_goes 64 = .ok (.aload_n 0, 1) := by decide +kernel
theorem dX12_goes_65 : decode cX12_goes 65 = .ok (.getfield 58, 3) := by decide +kernel
theorem dX12_goes_68 : decode cX12_goes 68 = .ok (.iload_n 2, 1) := by decide +kernel
theorem dX12_goes_69 : decode cX12_goes 69 = .ok (.iaload, 1) := by decide +kernel
theorem dX12_goes_70 : decode cX12_goes 70 = .ok (.i2l, 1) := by decide +kernel
theorem dX12_goes_71 : decode cX12_goes 71 = .ok (.goto 14, 3) := by decide +kernel
theorem dX12_goes_74 : decode cX12_goes 74 = .ok (.aload_n 0, 1) := by decide +kernel
theorem dX12_goes_75 : decode cX12_goes 75 = .ok (.getfield 65, 3) := by decide +kernel
theorem dX12_goes_78 : decode cX12_goes 78 = .ok (.aload_n 0, 1) := by decide +kernel
theorem dX12_goes_79 : decode cX12_goes 79 = .ok (.getfield 58, 3) := by decide +kernel
theorem dX12_goes_82 : decode cX12_goes 82 = .ok (.iload_n 2, 1) := by decide +kernel
theorem dX12_goes_83 : decode cX12_goes 83 = .ok (.iaload, 1) := by decide +kernel
theorem dX12_goes_84 : decode cX12_goes 84 = .ok (.laload, 1) := by decide +kernel
theorem dX12_goes_85 : decode cX12_goes 85 = .ok (.lastore, 1) := by decide +kernel
theorem dX12_goes_86 : decode cX12_goes 86 = .ok (.aload_n 0, 1) := by decide +kernel
theorem dX12_goes_87 : decode cX12_goes 87 = .ok (.dup, 1) := by decide +kernel
theorem dX12_goes_88 : decode cX12_goes 88 = .ok (.getfield 299, 3) := by decide +kernel
theorem dX12_goes_91 : decode cX12_goes 91 = .ok (.iconst 1, 1) := by decide +kernel
theorem dX12_goes_92 : decode cX12_goes 92 = .ok (.iadd, 1) := by decide +kernel
theorem dX12_goes_93 : decode cX12_goes 93 = .ok (.putfield 299, 3) := by decide +kernel
theorem dX12_goes_96 : decode cX12_goes 96 = .ok (.iinc 2 1, 3) := by decide +kernel
theorem dX12_goes_99 : decode cX12_goes 99 = .ok (.goto (-87), 3) := by decide +kernel
theorem dX12_goes_102 : decode cX12_goes 102 = .ok (.iconst 1, 1) := by decide +kernel
theorem dX12_goes_103 : decode cX12_goes 103 = .ok (.ireturn, 1) := by decide +kernel
theorem dX12_hasLaw_0 : decode cX12_hasLaw 0 = .ok (.aload_n 0, 1) := by decide +kernel
theorem dX12_hasLaw_1 : decode cX12_hasLaw 1 = .ok (.getfield 52, 3) := by decide +kernel
theorem dX12_hasLaw_4 : decode cX12_hasLaw 4 = .ok (.iload_n 1, 1) := by decide +kernel
theorem dX12_hasLaw_5 : decode cX12_hasLaw 5 = .ok (.iaload, 1) := by decide +kernel
theorem dX12_hasLaw_6 : decode cX12_hasLaw 6 = .ok (.aload_n 0, 1) := by decide +kernel
theorem dX12_hasLaw_7 : decode cX12_hasLaw 7 = .ok (.getfield 49, 3) := by decide +kernel
theorem dX12_hasLaw_10 : decode cX12_hasLaw 10 = .ok (.iload_n 1, 1) := by decide +kernel
theorem dX12_hasLaw_11 : decode cX12_hasLaw 11 = .ok (.iaload, 1) := by decide +kernel
theorem dX12_hasLaw_12 : decode cX12_hasLaw 12 = .ok (.if_icmp .le 7, 3) := by decide +kernel
theorem dX12_hasLaw_15 : decode cX12_hasLaw 15 = .ok (.iconst 1, 1) := by decide +kernel
theorem dX12_hasLaw_16 : decode cX12_hasLaw 16 = .ok (.goto 4, 3) := by decide +kernel
theorem dX12_hasLaw_19 : decode cX12_hasLaw 19 = .ok (.iconst 0, 1) := by decide +kernel
theorem dX12_hasLaw_20 : decode cX12_hasLaw 20 = .ok (.ireturn, 1) := by decide +kernel
theorem dX12_starts_0 : decode cX12_starts 0 = .ok (.aload_n 0, 1) := by decide +kernel
theorem dX12_starts_1 : decode cX12_starts 1 = .ok (.getfield 72, 3) := by decide +kernel
theorem dX12_starts_4 : decode cX12_starts 4 = .ok (.iload_n 1, 1) := by decide +kernel
theorem dX12_starts_5 : decode cX12_starts 5 = .ok (.iconst 0, 1) := by decide +kernel
theorem dX12_starts_6 : decode cX12_starts 6 = .ok (.iastore, 1) := by decide +kernel
theorem dX12_starts_7 : decode cX12_starts 7 = .ok (.aload_n 0, 1) := by decide +kernel
theorem dX12_starts_8 : decode cX12_starts 8 = .ok (.getfield 75, 3) := by decide +kernel
theorem dX12_starts_11 : decode cX12_starts 11 = .ok (.iload_n 1, 1) := by decide +kernel
theorem dX12_starts_12 : decode cX12_starts 12 = .ok (.aload_n 0, 1) := by decide +kernel
theorem dX12_starts_13 : decode cX12_starts 13 = .ok (.getfield 13, 3) := by decide +kernel
theorem dX12_starts_16 : decode cX12_starts 16 = .ok (.iconst 5, 1) := by decide +kernel
theorem dX12_starts_17 : decode cX12_starts 17 = .ok (.iaload, 1) := by decide +kernel
theorem dX12_starts_18 : decode cX12_starts 18 = .ok (.iastore, 1) := by decide +kernel
theorem dX12_starts_19 : decode cX12_starts 19 = .ok (.aload_n 0, 1) := by decide +kernel
theorem dX12_starts_20 : decode cX12_starts 20 = .ok (.getfield 78, 3) := by decide +kernel
theorem dX12_starts_23 : decode cX12_starts 23 = .ok (.iload_n 1, 1) := by decide +kernel
theorem dX12_starts_24 : decode cX12_starts 24 = .ok (.iconst 0, 1) := by decide +kernel
theorem dX12_starts_25 : decode cX12_starts 25 = .ok (.iastore, 1) := by decide +kernel
theorem dX12_starts_26 : decode cX12_starts 26 = .ok (.iconst 0, 1) := by decide +kernel
theorem dX12_starts_27 : decode cX12_starts 27 = .ok (.istore_n 2, 1) := by decide +kernel
theorem dX12_starts_28 : decode cX12_starts 28 = .ok (.iload_n 2, 1) := by decide +kernel
theorem dX12_starts_29 : decode cX12_starts 29 = .ok (.bipush 16, 2) := by decide +kernel
theorem dX12_starts_31 : decode cX12_starts 31 = .ok (.if_icmp .ge 54, 3) := by decide +kernel
theorem dX12_starts_34 : decode cX12_starts 34 = .ok (.aload_n 0, 1) := by decide +kernel
theorem dX12_starts_35 : decode cX12_starts 35 = .ok (.getfield 81, 3) := by decide +kernel
theorem dX12_starts_38 : decode cX12_starts 38 = .ok (.bipush 16, 2) := by decide +kernel
theorem dX12_starts_40 : decode cX12_starts 40 = .ok (.iload_n 1, 1) := by decide +kernel
theorem dX12_starts_41 : decode cX12_starts 41 = .ok (.imul, 1) := by decide +kernel
theorem dX12_starts_42 : decode cX12_starts 42 = .ok (.iload_n 2, 1) := by decide +kernel
theorem dX12_starts_43 : decode cX12_starts 43 = .ok (.iadd, 1) := by decide +kernel
theorem dX12_starts_44 : decode cX12_starts 44 = .ok (.iconst 0, 1) := by decide +kernel
theorem dX12_starts_45 : decode cX12_starts 45 = .ok (.iastore, 1) := by decide +kernel
theorem dX12_starts_46 : decode cX12_starts 46 = .ok (.aload_n 0, 1) := by decide +kernel
theorem dX12_starts_47 : decode cX12_starts 47 = .ok (.getfield 84, 3) := by decide +kernel
theorem dX12_starts_50 : decode cX12_starts 50 = .ok (.bipush 16, 2) := by decide +kernel
theorem dX12_starts_52 : decode cX12_starts 52 = .ok (.iload_n 1, 1) := by decide +kernel
theorem dX12_starts_53 : decode cX12_starts 53 = .ok (.imul, 1) := by decide +kernel
theorem dX12_starts_54 : decode cX12_starts 54 = .ok (.iload_n 2, 1) := by decide +kernel
theorem dX12_starts_55 : decode cX12_starts 55 = .ok (.iadd, 1) := by decide +kernel
theorem dX12_starts_56 : decode cX12_starts 56 = .ok (.iload_n 2, 1) := by decide +kernel
theorem dX12_starts_57 : decode cX12_starts 57 = .ok (.iconst 4, 1) := by decide +kernel
theorem dX12_starts_58 : decode cX12_starts 58 = .ok (.aload_n 0, 1) := by decide +kernel
theorem dX12_starts_59 : decode cX12_starts 59 = .ok (.getfield 13, 3) := by decide +kernel
theorem dX12_starts_62 : decode cX12_starts 62 = .ok (.iconst 1, 1) := by decide +kernel
theorem dX12_starts_63 : decode cX12_starts 63 = .ok (.iaload, 1) := by decide +kernel
theorem dX12_starts_64 : decode cX12_starts 64 = .ok (.imul, 1) := by decide +kernel
theorem dX12_starts_65 : decode cX12_starts 65 = .ok (.if_icmp .ge 12, 3) := by decide +kernel
theorem dX12_starts_68 : decode cX12_starts 68 = .ok (.aload_n 0, 1) := by decide +kernel
theorem dX12_starts_69 : decode cX12_starts 69 = .ok (.getfield 25, 3) := by decide +kernel
theorem dX12_starts_72 : decode cX12_starts 72 = .ok (.iload_n 2, 1) := by decide +kernel
theorem dX12_starts_73 : decode cX12_starts 73 = .ok (.iaload, 1) := by decide +kernel
theorem dX12_starts_74 : decode cX12_starts 74 = .ok (.goto 4, 3) := by decide +kernel
theorem dX12_starts_77 : decode cX12_starts 77 = .ok (.iconst 0, 1) := by decide +kernel
theorem dX12_starts_78 : decode cX12_starts 78 = .ok (.iastore, 1) := by decide +kernel
theorem dX12_starts_79 : decode cX12_starts 79 = .ok (.iinc 2 1, 3) := by decide +kernel
theorem dX12_starts_82 : decode cX12_starts 82 = .ok (.goto (-54), 3) := by decide +kernel
theorem dX12_starts_85 : decode cX12_starts 85 = .ok (.iconst 0, 1) := by decide +kernel
theorem dX12_starts_86 : decode cX12_starts 86 = .ok (.istore_n 2, 1) := by decide +kernel
theorem dX12_starts_87 : decode cX12_starts 87 = .ok (.iload_n 2, 1) := by decide +kernel
theorem dX12_starts_88 : decode cX12_starts 88 = .ok (.bipush 6, 2) := by decide +kernel
theorem dX12_starts_90 : decode cX12_starts 90 = .ok (.if_icmp .ge 52, 3) := by decide +kernel
theorem dX12_starts_93 : decode cX12_starts 93 = .ok (.aload_n 0, 1) := by decide +kernel
theorem dX12_starts_94 : decode cX12_starts 94 = .ok (.getfield 87, 3) := by decide +kernel
theorem dX12_starts_97 : decode cX12_starts 97 = .ok (.bipush 6, 2) := by decide +kernel
theorem dX12_starts_99 : decode cX12_starts 99 = .ok (.iload_n 1, 1) := by decide +kernel
theorem dX12_starts_100 : decode cX12_starts 100 = .ok (.imul, 1) := by decide +kernel
theorem dX12_starts_101 : decode cX12_starts 101 = .ok (.iload_n 2, 1) := by decide +kernel
theorem dX12_starts_102 : decode cX12_starts 102 = .ok (.iadd, 1) := by decide +kernel
theorem dX12_starts_103 : decode cX12_starts 103 = .ok (.iload_n 2, 1) := by decide +kernel
theorem dX12_starts_104 : decode cX12_starts 104 = .ok (.aload_n 0, 1) := by decide +kernel
theorem dX12_starts_105 : decode cX12_starts 105 = .ok (.getfield 13, 3) := by decide +kernel
theorem dX12_starts_108 : decode cX12_starts 108 = .ok (.iconst 2, 1) := by decide +kernel
theorem dX12_starts_109 : decode cX12_starts 109 = .ok (.iaload, 1) := by decide +kernel
theorem dX12_starts_110 : decode cX12_starts 110 = .ok (.if_icmp .ge 12, 3) := by decide +kernel
theorem dX12_starts_113 : decode cX12_starts 113 = .ok (.aload_n 0, 1) := by decide +kernel
theorem dX12_starts_114 : decode cX12_starts 114 = .ok (.getfield 31, 3) := by decide +kernel
theorem dX12_starts_117 : decode cX12_starts 117 = .ok (.iload_n 2, 1) := by decide +kernel
theorem dX12_starts_118 : decode cX12_starts 118 = .ok (.iaload, 1) := by decide +kernel
theorem dX12_starts_119 : decode cX12_starts 119 = .ok (.goto 4, 3) := by decide +kernel
theorem dX12_starts_122 : decode cX12_starts 122 = .ok (.iconst 0, 1) := by decide +kernel
theorem dX12_starts_123 : decode cX12_starts 123 = .ok (.iastore, 1) := by decide +kernel
theorem dX12_starts_124 : decode cX12_starts 124 = .ok (.aload_n 0, 1) := by decide +kernel
theorem dX12_starts_125 : decode cX12_starts 125 = .ok (.getfield 90, 3) := by decide +kernel
theorem dX12_starts_128 : decode cX12_starts 128 = .ok (.bipush 6, 2) := by decide +kernel
theorem dX12_starts_130 : decode cX12_starts 130 = .ok (.iload_n 1, 1) := by decide +kernel
theorem dX12_starts_131 : decode cX12_starts 131 = .ok (.imul, 1) := by decide +kernel
theorem dX12_starts_132 : decode cX12_starts 132 = .ok (.iload_n 2, 1) := by decide +kernel
theorem dX12_starts_133 : decode cX12_starts 133 = .ok (.iadd, 1) := by decide +kernel
theorem dX12_starts_134 : decode cX12_starts 134 = .ok (.iconst 0, 1) := by decide +kernel
theorem dX12_starts_135 : decode cX12_starts 135 = .ok (.iastore, 1) := by decide +kernel
theorem dX12_starts_136 : decode cX12_starts 136 = .ok (.iinc 2 1, 3) := by decide +kernel
theorem dX12_starts_139 : decode cX12_starts 139 = .ok (.goto (-52), 3) := by decide +kernel
theorem dX12_starts_142 : decode cX12_starts 142 = .ok (.return_, 1) := by decide +kernel
theorem dX12_begins_0 : decode cX12_begins 0 = .ok (.aload_n 0, 1) := by decide +kernel
theorem dX12_begins_1 : decode cX12_begins 1 = .ok (.iconst 0, 1) := by decide +kernel
theorem dX12_begins_2 : decode cX12_begins 2 = .ok (.invokevirtual 319, 3) := by decide +kernel
theorem dX12_begins_5 : decode cX12_begins 5 = .ok (.return_, 1) := by decide +kernel
theorem dX12_copies_0 : decode cX12_copies 0 = .ok (.aload_n 0, 1) := by decide +kernel
theorem dX12_copies_1 : decode cX12_copies 1 = .ok (.getfield 72, 3) := by decide +kernel
theorem dX12_copies_4 : decode cX12_copies 4 = .ok (.iload_n 1, 1) := by decide +kernel
theorem dX12_copies_5 : decode cX12_copies 5 = .ok (.aload_n 0, 1) := by decide +kernel
theorem dX12_copies_6 : decode cX12_copies 6 = .ok (.getfield 72, 3) := by decide +kernel
theorem dX12_copies_9 : decode cX12_copies 9 = .ok (.iload_n 2, 1) := by decide +kernel
theorem dX12_copies_10 : decode cX12_copies 10 = .ok (.iaload, 1) := by decide +kernel
theorem dX12_copies_11 : decode cX12_copies 11 = .ok (.iastore, 1) := by decide +kernel
theorem dX12_copies_12 : decode cX12_copies 12 = .ok (.aload_n 0, 1) := by decide +kernel
theorem dX12_copies_13 : decode cX12_copies 13 = .ok (.getfield 75, 3) := by decide +kernel
theorem dX12_copies_16 : decode cX12_copies 16 = .ok (.iload_n 1, 1) := by decide +kernel
theorem dX12_copies_17 : decode cX12_copies 17 = .ok (.aload_n 0, 1) := by decide +kernel
theorem dX12_copies_18 : decode cX12_copies 18 = .ok (.getfield 75, 3) := by decide +kernel
theorem dX12_copies_21 : decode cX12_copies 21 = .ok (.iload_n 2, 1) := by decide +kernel
theorem dX12_copies_22 : decode cX12_copies 22 = .ok (.iaload, 1) := by decide +kernel
theorem dX12_copies_23 : decode cX12_copies 23 = .ok (.iastore, 1) := by decide +kernel
theorem dX12_copies_24 : decode cX12_copies 24 = .ok (.aload_n 0, 1) := by decide +kernel
theorem dX12_copies_25 : decode cX12_copies 25 = .ok (.getfield 78, 3) := by decide +kernel
theorem dX12_copies_28 : decode cX12_copies 28 = .ok (.iload_n 1, 1) := by decide +kernel
theorem dX12_copies_29 : decode cX12_copies 29 = .ok (.aload_n 0, 1) := by decide +kernel
theorem dX12_copies_30 : decode cX12_copies 30 = .ok (.getfield 78, 3) := by decide +kernel
theorem dX12_copies_33 : decode cX12_copies 33 = .ok (.iload_n 2, 1) := by decide +kernel
theorem dX12_copies_34 : decode cX12_copies 34 = .ok (.iaload, 1) := by decide +kernel
theorem dX12_copies_35 : decode cX12_copies 35 = .ok (.iastore, 1) := by decide +kernel
theorem dX12_copies_36 : decode cX12_copies 36 = .ok (.iconst 0, 1) := by decide +kernel
theorem dX12_copies_37 : decode cX12_copies 37 = .ok (.istore_n 3, 1) := by decide +kernel
theorem dX12_copies_38 : decode cX12_copies 38 = .ok (.iload_n 3, 1) := by decide +kernel
theorem dX12_copies_39 : decode cX12_copies 39 = .ok (.bipush 16, 2) := by decide +kernel
theorem dX12_copies_41 : decode cX12_copies 41 = .ok (.if_icmp .ge 53, 3) := by decide +kernel
theorem dX12_copies_44 : decode cX12_copies 44 = .ok (.aload_n 0, 1) := by decide +kernel
theorem dX12_copies_45 : decode cX12_copies 45 = .ok (.getfield 81, 3) := by decide +kernel
theorem dX12_copies_48 : decode cX12_copies 48 = .ok (.bipush 16, 2) := by decide +kernel
theorem dX12_copies_50 : decode cX12_copies 50 = .ok (.iload_n 1, 1) := by decide +kernel
theorem dX12_copies_51 : decode cX12_copies 51 = .ok (.imul, 1) := by decide +kernel
theorem dX12_copies_52 : decode cX12_copies 52 = .ok (.iload_n 3, 1) := by decide +kernel
theorem dX12_copies_53 : decode cX12_copies 53 = .ok (.iadd, 1) := by decide +kernel
theorem dX12_copies_54 : decode cX12_copies 54 = .ok (.aload_n 0, 1) := by decide +kernel
theorem dX12_copies_55 : decode cX12_copies 55 = .ok (.getfield 81, 3) := by decide +kernel
theorem dX12_copies_58 : decode cX12_copies 58 = .ok (.bipush 16, 2) := by decide +kernel
theorem dX12_copies_60 : decode cX12_copies 60 = .ok (.iload_n 2, 1) := by decide +kernel
theorem dX12_copies_61 : decode cX12_copies 61 = .ok (.imul, 1) := by decide +kernel
theorem dX12_copies_62 : decode cX12_copies 62 = .ok (.iload_n 3, 1) := by decide +kernel
theorem dX12_copies_63 : decode cX12_copies 63 = .ok (.iadd, 1) := by decide +kernel
theorem dX12_copies_64 : decode cX12_copies 64 = .ok (.iaload, 1) := by decide +kernel
theorem dX12_copies_65 : decode cX12_copies 65 = .ok (.iastore, 1) := by decide +kernel
theorem dX12_copies_66 : decode cX12_copies 66 = .ok (.aload_n 0, 1) := by decide +kernel
theorem dX12_copies_67 : decode cX12_copies 67 = .ok (.getfield 84, 3) := by decide +kernel
theorem dX12_copies_70 : decode cX12_copies 70 = .ok (.bipush 16, 2) := by decide +kernel
theorem dX12_copies_72 : decode cX12_copies 72 = .ok (.iload_n 1, 1) := by decide +kernel
theorem dX12_copies_73 : decode cX12_copies 73 = .ok (.imul, 1) := by decide +kernel
theorem dX12_copies_74 : decode cX12_copies 74 = .ok (.iload_n 3, 1) := by decide +kernel
theorem dX12_copies_75 : decode cX12_copies 75 = .ok (.iadd, 1) := by decide +kernel
theorem dX12_copies_76 : decode cX12_copies 76 = .ok (.aload_n 0, 1) := by decide +kernel
theorem dX12_copies_77 : decode cX12_copies 77 = .ok (.getfield 84, 3) := by decide +kernel
theorem dX12_copies_80 : decode cX12_copies 80 = .ok (.bipush 16, 2) := by decide +kernel
theorem dX12_copies_82 : decode cX12_copies 82 = .ok (.iload_n 2, 1) := by decide +kernel
theorem dX12_copies_83 : decode cX12_copies 83 = .ok (.imul, 1) := by decide +kernel
theorem dX12_copies_84 : decode cX12_copies 84 = .ok (.iload_n 3, 1) := by decide +kernel
theorem dX12_copies_85 : decode cX12_copies 85 = .ok (.iadd, 1) := by decide +kernel
theorem dX12_copies_86 : decode cX12_copies 86 = .ok (.iaload, 1) := by decide +kernel
theorem dX12_copies_87 : decode cX12_copies 87 = .ok (.iastore, 1) := by decide +kernel
theorem dX12_copies_88 : decode cX12_copies 88 = .ok (.iinc 3 1, 3) := by decide +kernel
theorem dX12_copies_91 : decode cX12_copies 91 = .ok (.goto (-53), 3) := by decide +kernel
theorem dX12_copies_94 : decode cX12_copies 94 = .ok (.iconst 0, 1) := by decide +kernel
theorem dX12_copies_95 : decode cX12_copies 95 = .ok (.istore_n 3, 1) := by decide +kernel
theorem dX12_copies_96 : decode cX12_copies 96 = .ok (.iload_n 3, 1) := by decide +kernel
theorem dX12_copies_97 : decode cX12_copies 97 = .ok (.bipush 6, 2) := by decide +kernel
theorem dX12_copies_99 : decode cX12_copies 99 = .ok (.if_icmp .ge 53, 3) := by decide +kernel
theorem dX12_copies_102 : decode cX12_copies 102 = .ok (.aload_n 0, 1) := by decide +kernel
theorem dX12_copies_103 : decode cX12_copies 103 = .ok (.getfield 87, 3) := by decide +kernel
theorem dX12_copies_106 : decode cX12_copies 106 = .ok (.bipush 6, 2) := by decide +kernel
theorem dX12_copies_108 : decode cX12_copies 108 = .ok (.iload_n 1, 1) := by decide +kernel
theorem dX12_copies_109 : decode cX12_copies 109 = .ok (.imul, 1) := by decide +kernel
theorem dX12_copies_110 : decode cX12_copies 110 = .ok (.iload_n 3, 1) := by decide +kernel
theorem dX12_copies_111 : decode cX12_copies 111 = .ok (.iadd, 1) := by decide +kernel
theorem dX12_copies_112 : decode cX12_copies 112 = .ok (.aload_n 0, 1) := by decide +kernel
theorem dX12_copies_113 : decode cX12_copies 113 = .ok (.getfield 87, 3) := by decide +kernel
theorem dX12_copies_116 : decode cX12_copies 116 = .ok (.bipush 6, 2) := by decide +kernel
theorem dX12_copies_118 : decode cX12_copies 118 = .ok (.iload_n 2, 1) := by decide +kernel
theorem dX12_copies_119 : decode cX12_copies 119 = .ok (.imul, 1) := by decide +kernel
theorem dX12_copies_120 : decode cX12_copies 120 = .ok (.iload_n 3, 1) := by decide +kernel
theorem dX12_copies_121 : decode cX12_copies 121 = .ok (.iadd, 1) := by decide +kernel
theorem dX12_copies_122 : decode cX12_copies 122 = .ok (.iaload, 1) := by decide +kernel
theorem dX12_copies_123 : decode cX12_copies 123 = .ok (.iastore, 1) := by decide +kernel
theorem dX12_copies_124 : decode cX12_copies 124 = .ok (.aload_n 0, 1) := by decide +kernel
theorem dX12_copies_125 : decode cX12_copies 125 = .ok (.getfield 90, 3) := by decide +kernel
theorem dX12_copies_128 : decode cX12_copies 128 = .ok (.bipush 6, 2) := by decide +kernel
theorem dX12_copies_130 : decode cX12_copies 130 = .ok (.iload_n 1, 1) := by decide +kernel
theorem dX12_copies_131 : decode cX12_copies 131 = .ok (.imul, 1) := by decide +kernel
theorem dX12_copies_132 : decode cX12_copies 132 = .ok (.iload_n 3, 1) := by decide +kernel
theorem dX12_copies_133 : decode cX12_copies 133 = .ok (.iadd, 1) := by decide +kernel
theorem dX12_copies_134 : decode cX12_copies 134 = .ok (.aload_n 0, 1) := by decide +kernel
theorem dX12_copies_135 : decode cX12_copies 135 = .ok (.getfield 90, 3) := by decide +kernel
theorem dX12_copies_138 : decode cX12_copies 138 = .ok (.bipush 6, 2) := by decide +kernel
theorem dX12_copies_140 : decode cX12_copies 140 = .ok (.iload_n 2, 1) := by decide +kernel
theorem dX12_copies_141 : decode cX12_copies 141 = .ok (.imul, 1) := by decide +kernel
theorem dX12_copies_142 : decode cX12_copies 142 = .ok (.iload_n 3, 1) := by decide +kernel
theorem dX12_copies_143 : decode cX12_copies 143 = .ok (.iadd, 1) := by decide +kernel
theorem dX12_copies_144 : decode cX12_copies 144 = .ok (.iaload, 1) := by decide +kernel
theorem dX12_copies_145 : decode cX12_copies 145 = .ok (.iastore, 1) := by decide +kernel
theorem dX12_copies_146 : decode cX12_copies 146 = .ok (.iinc 3 1, 3) := by decide +kernel
theorem dX12_copies_149 : decode cX12_copies 149 = .ok (.goto (-53), 3) := by decide +kernel
theorem dX12_copies_152 : decode cX12_copies 152 = .ok (.return_, 1) := by decide +kernel
theorem dX12_isParish_0 : decode cX12_isParish 0 = .ok (.iload_n 1, 1) := by decide +kernel
theorem dX12_isParish_1 : decode cX12_isParish 1 = .ok (.ifCond .lt 17, 3) := by decide +kernel
theorem dX12_isParish_4 : decode cX12_isParish 4 = .ok (.iload_n 1, 1) := by decide +kernel
theorem dX12_isParish_5 : decode cX12_isParish 5 = .ok (.aload_n 0, 1) := by decide +kernel
theorem dX12_isParish_6 : decode cX12_isParish 6 = .ok (.getfield 13, 3) := by decide +kernel
theorem dX12_isParish_9 : decode cX12_isParish 9 = .ok (.iconst 1, 1) := by decide +kernel
theorem dX12_isParish_10 : decode cX12_isParish 10 = .ok (.iaload, 1) := by decide +kernel
theorem dX12_isParish_11 : decode cX12_isParish 11 = .ok (.if_icmp .ge 7, 3) := by decide +kernel
theorem dX12_isParish_14 : decode cX12_isParish 14 = .ok (.iconst 1, 1) := by decide +kernel
theorem dX12_isParish_15 : decode cX12_isParish 15 = .ok (.goto 4, 3) := by decide +kernel
theorem dX12_isParish_18 : decode cX12_isParish 18 = .ok (.iconst 0, 1) := by decide +kernel
theorem dX12_isParish_19 : decode cX12_isParish 19 = .ok (.ireturn, 1) := by decide +kernel
theorem dX12_isChild_0 : decode cX12_isChild 0 = .ok (.iload_n 1, 1) := by decide +kernel
theorem dX12_isChild_1 : decode cX12_isChild 1 = .ok (.ifCond .lt 17, 3) := by decide +kernel
theorem dX12_isChild_4 : decode cX12_isChild 4 = .ok (.iload_n 1, 1) := by decide +kernel
theorem dX12_isChild_5 : decode cX12_isChild 5 = .ok (.aload_n 0, 1) := by decide +kernel
theorem dX12_isChild_6 : decode cX12_isChild 6 = .ok (.getfield 13, 3) := by decide +kernel
theorem dX12_isChild_9 : decode cX12_isChild 9 = .ok (.iconst 2, 1) := by decide +kernel
theorem dX12_isChild_10 : decode cX12_isChild 10 = .ok (.iaload, 1) := by decide +kernel
theorem dX12_isChild_11 : decode cX12_isChild 11 = .ok (.if_icmp .ge 7, 3) := by decide +kernel
theorem dX12_isChild_14 : decode cX12_isChild 14 = .ok (.iconst 1, 1) := by decide +kernel
theorem dX12_isChild_15 : decode cX12_isChild 15 = .ok (.goto 4, 3) := by decide +kernel
theorem dX12_isChild_18 : decode cX12_isChild 18 = .ok (.iconst 0, 1) := by decide +kernel
theorem dX12_isChild_19 : decode cX12_isChild 19 = .ok (.ireturn, 1) := by decide +kernel
theorem dX12_isWay_0 : decode cX12_isWay 0 = .ok (.iload_n 0, 1) := by decide +kernel
theorem dX12_isWay_1 : decode cX12_isWay 1 = .ok (.ifCond .lt 12, 3) := by decide +kernel
theorem dX12_isWay_4 : decode cX12_isWay 4 = .ok (.iload_n 0, 1) := by decide +kernel
theorem dX12_isWay_5 : decode cX12_isWay 5 = .ok (.iconst 4, 1) := by decide +kernel
theorem dX12_isWay_6 : decode cX12_isWay 6 = .ok (.if_icmp .ge 7, 3) := by decide +kernel
theorem dX12_isWay_9 : decode cX12_isWay 9 = .ok (.iconst 1, 1) := by decide +kernel
theorem dX12_isWay_10 : decode cX12_isWay 10 = .ok (.goto 4, 3) := by decide +kernel
theorem dX12_isWay_13 : decode cX12_isWay 13 = .ok (.iconst 0, 1) := by decide +kernel
theorem dX12_isWay_14 : decode cX12_isWay 14 = .ok (.ireturn, 1) := by decide +kernel
theorem dX12_isCell_0 : decode cX12_isCell 0 = .ok (.iload_n 1, 1) := by decide +kernel
theorem dX12_isCell_1 : decode cX12_isCell 1 = .ok (.ifCond .lt 31, 3) := by decide +kernel
theorem dX12_isCell_4 : decode cX12_isCell 4 = .ok (.iload_n 1, 1) := by decide +kernel
theorem dX12_isCell_5 : decode cX12_isCell 5 = .ok (.aload_n 0, 1) := by decide +kernel
theorem dX12_isCell_6 : decode cX12_isCell 6 = .ok (.getfield 13, 3) := by decide +kernel
theorem dX12_isCell_9 : decode cX12_isCell 9 = .ok (.iconst 0, 1) := by decide +kernel
theorem dX12_isCell_10 : decode cX12_isCell 10 = .ok (.iaload, 1) := by decide +kernel
theorem dX12_isCell_11 : decode cX12_isCell 11 = .ok (.if_icmp .ge 21, 3) := by decide +kernel
theorem dX12_isCell_14 : decode cX12_isCell 14 = .ok (.iload_n 2, 1) := by decide +kernel
theorem dX12_isCell_15 : decode cX12_isCell 15 = .ok (.ifCond .lt 17, 3) := by decide +kernel
theorem dX12_isCell_18 : decode cX12_isCell 18 = .ok (.iload_n 2, 1) := by decide +kernel
theorem dX12_isCell_19 : decode cX12_isCell 19 = .ok (.aload_n 0, 1) := by decide +kernel
theorem dX12_isCell_20 : decode cX12_isCell 20 = .ok (.getfield 13, 3) := by decide +kernel
theorem dX12_isCell_23 : decode cX12_isCell 23 = .ok (.iconst 0, 1) := by decide +kernel
theorem dX12_isCell_24 : decode cX12_isCell 24 = .ok (.iaload, 1) := by decide +kernel
theorem dX12_isCell_25 : decode cX12_isCell 25 = .ok (.if_icmp .ge 7, 3) := by decide +kernel
theorem dX12_isCell_28 : decode cX12_isCell 28 = .ok (.iconst 1, 1) := by decide +kernel
theorem dX12_isCell_29 : decode cX12_isCell 29 = .ok (.goto 4, 3) := by decide +kernel
theorem dX12_isCell_32 : decode cX12_isCell 32 = .ok (.iconst 0, 1) := by decide +kernel
theorem dX12_isCell_33 : decode cX12_isCell 33 = .ok (.ireturn, 1) := by decide +kernel
theorem dX12_edge_0 : decode cX12_edge 0 = .ok (.iload_n 2, 1) := by decide +kernel
theorem dX12_edge_1 : decode cX12_edge 1 = .ok (.tableswitch 66 0 2 #[27, 34, 50], 27) := by decide +kernel
theorem dX12_edge_28 : decode cX12_edge 28 = .ok (.aload_n 0, 1) := by decide +kernel
theorem dX12_edge_29 : decode cX12_edge 29 = .ok (.getfield 19, 3) := by decide +kernel
theorem dX12_edge_32 : decode cX12_edge 32 = .ok (.iload_n 1, 1) := by decide +kernel
theorem dX12_edge_33 : decode cX12_edge 33 = .ok (.iaload, 1) := by decide +kernel
theorem dX12_edge_34 : decode cX12_edge 34 = .ok (.ireturn, 1) := by decide +kernel
theorem dX12_edge_35 : decode cX12_edge 35 = .ok (.aload_n 0, 1) := by decide +kernel
theorem dX12_edge_36 : decode cX12_edge 36 = .ok (.getfield 13, 3) := by decide +kernel
theorem dX12_edge_39 : decode cX12_edge 39 = .ok (.iconst 0, 1) := by decide +kernel
theorem dX12_edge_40 : decode cX12_edge 40 = .ok (.iaload, 1) := by decide +kernel
theorem dX12_edge_41 : decode cX12_edge 41 = .ok (.iconst 1, 1) := by decide +kernel
theorem dX12_edge_42 : decode cX12_edge 42 = .ok (.isub, 1) := by decide +kernel
theorem dX12_edge_43 : decode cX12_edge 43 = .ok (.aload_n 0, 1) := by decide +kernel
theorem dX12_edge_44 : decode cX12_edge 44 = .ok (.getfield 22, 3) := by decide +kernel
theorem dX12_edge_47 : decode cX12_edge 47 = .ok (.iload_n 1, 1) := by decide +kernel
theorem dX12_edge_48 : decode cX12_edge 48 = .ok (.iaload, 1) := by decide +kernel
theorem dX12_edge_49 : decode cX12_edge 49 = .ok (.isub, 1) := by decide +kernel
theorem dX12_edge_50 : decode cX12_edge 50 = .ok (.ireturn, 1) := by decide +kernel
theorem dX12_edge_51 : decode cX12_edge 51 = .ok (.aload_n 0, 1) := by decide +kernel
theorem dX12_edge_52 : decode cX12_edge 52 = .ok (.getfield 13, 3) := by decide +kernel
theorem dX12_edge_55 : decode cX12_edge 55 = .ok (.iconst 0, 1) := by decide +kernel
theorem dX12_edge_56 : decode cX12_edge 56 = .ok (.iaload, 1) := by decide +kernel
theorem dX12_edge_57 : decode cX12_edge 57 = .ok (.iconst 1, 1) := by decide +kernel
theorem dX12_edge_58 : decode cX12_edge 58 = .ok (.isub, 1) := by decide +kernel
theorem dX12_edge_59 : decode cX12_edge 59 = .ok (.aload_n 0, 1) := by decide +kernel
theorem dX12_edge_60 : decode cX12_edge 60 = .ok (.getfield 19, 3) := by decide +kernel
theorem dX12_edge_63 : decode cX12_edge 63 = .ok (.iload_n 1, 1) := by decide +kernel
theorem dX12_edge_64 : decode cX12_edge 64 = .ok (.iaload, 1) := by decide +kernel
theorem dX12_edge_65 : decode cX12_edge 65 = .ok (.isub, 1) := by decide +kernel
theorem dX12_edge_66 : decode cX12_edge 66 = .ok (.ireturn, 1) := by decide +kernel
theorem dX12_edge_67 : decode cX12_edge 67 = .ok (.aload_n 0, 1) := by decide +kernel
theorem dX12_edge_68 : decode cX12_edge 68 = .ok (.getfield 22, 3) := by decide +kernel
theorem dX12_edge_71 : decode cX12_edge 71 = .ok (.iload_n 1, 1) := by decide +kernel
theorem dX12_edge_72 : decode cX12_edge 72 = .ok (.iaload, 1) := by decide +kernel
theorem dX12_edge_73 : decode cX12_edge 73 = .ok (.ireturn, 1) := by decide +kernel
theorem dX12_slot_0 : decode cX12_slot 0 = .ok (.bipush 16, 2) := by decide +kernel
theorem dX12_slot_2 : decode cX12_slot 2 = .ok (.iload_n 0, 1) := by decide +kernel
theorem dX12_slot_3 : decode cX12_slot 3 = .ok (.imul, 1) := by decide +kernel
theorem dX12_slot_4 : decode cX12_slot 4 = .ok (.iconst 4, 1) := by decide +kernel
theorem dX12_slot_5 : decode cX12_slot 5 = .ok (.iload_n 1, 1) := by decide +kernel
theorem dX12_slot_6 : decode cX12_slot 6 = .ok (.imul, 1) := by decide +kernel
theorem dX12_slot_7 : decode cX12_slot 7 = .ok (.iadd, 1) := by decide +kernel
theorem dX12_slot_8 : decode cX12_slot 8 = .ok (.iload_n 2, 1) := by decide +kernel
theorem dX12_slot_9 : decode cX12_slot 9 = .ok (.iadd, 1) := by decide +kernel
theorem dX12_slot_10 : decode cX12_slot 10 = .ok (.ireturn, 1) := by decide +kernel
theorem dX12_side_0 : decode cX12_side 0 = .ok (.iload_n 3, 1) := by decide +kernel
theorem dX12_side_1 : decode cX12_side 1 = .ok (.tableswitch 84 0 2 #[27, 46, 65], 27) := by decide +kernel
theorem dX12_side_28 : decode cX12_side 28 = .ok (.aload_n 0, 1) := by decide +kernel
theorem dX12_side_29 : decode cX12_side 29 = .ok (.getfield 19, 3) := by decide +kernel
theorem dX12_side_32 : decode cX12_side 32 = .ok (.iload_n 2, 1) := by decide +kernel
theorem dX12_side_33 : decode cX12_side 33 = .ok (.iaload, 1) := by decide +kernel
theorem dX12_side_34 : decode cX12_side 34 = .ok (.aload_n 0, 1) := by decide +kernel
theorem dX12_side_35 : decode cX12_side 35 = .ok (.getfield 81, 3) := by decide +kernel
theorem dX12_side_38 : decode cX12_side 38 = .ok (.iload_n 1, 1) := by decide +kernel
theorem dX12_side_39 : decode cX12_side 39 = .ok (.iload_n 2, 1) := by decide +kernel
theorem dX12_side_40 : decode cX12_side 40 = .ok (.iconst 0, 1) := by decide +kernel
theorem dX12_side_41 : decode cX12_side 41 = .ok (.invokestatic 322, 3) := by decide +kernel
theorem dX12_side_44 : decode cX12_side 44 = .ok (.iaload, 1) := by decide +kernel
theorem dX12_side_45 : decode cX12_side 45 = .ok (.isub, 1) := by decide +kernel
theorem dX12_side_46 : decode cX12_side 46 = .ok (.ireturn, 1) := by decide +kernel
theorem dX12_side_47 : decode cX12_side 47 = .ok (.aload_n 0, 1) := by decide +kernel
theorem dX12_side_48 : decode cX12_side 48 = .ok (.getfield 19, 3) := by decide +kernel
theorem dX12_side_51 : decode cX12_side 51 = .ok (.iload_n 2, 1) := by decide +kernel
theorem dX12_side_52 : decode cX12_side 52 = .ok (.iaload, 1) := by decide +kernel
theorem dX12_side_53 : decode cX12_side 53 = .ok (.aload_n 0, 1) := by decide +kernel
theorem dX12_side_54 : decode cX12_side 54 = .ok (.getfield 81, 3) := by decide +kernel
theorem dX12_side_57 : decode cX12_side 57 = .ok (.iload_n 1, 1) := by decide +kernel
theorem dX12_side_58 : decode cX12_side 58 = .ok (.iload_n 2, 1) := by decide +kernel
theorem dX12_side_59 : decode cX12_side 59 = .ok (.iconst 2, 1) := by decide +kernel
theorem dX12_side_60 : decode cX12_side 60 = .ok (.invokestatic 322, 3) := by decide +kernel
theorem dX12_side_63 : decode cX12_side 63 = .ok (.iaload, 1) := by decide +kernel
theorem dX12_side_64 : decode cX12_side 64 = .ok (.iadd, 1) := by decide +kernel
theorem dX12_side_65 : decode cX12_side 65 = .ok (.ireturn, 1) := by decide +kernel
theorem dX12_side_66 : decode cX12_side 66 = .ok (.aload_n 0, 1) := by decide +kernel
theorem dX12_side_67 : decode cX12_side 67 = .ok (.getfield 22, 3) := by decide +kernel
theorem dX12_side_70 : decode cX12_side 70 = .ok (.iload_n 2, 1) := by decide +kernel
theorem dX12_side_71 : decode cX12_side 71 = .ok (.iaload, 1) := by decide +kernel
theorem dX12_side_72 : decode cX12_side 72 = .ok (.aload_n 0, 1) := by decide +kernel
theorem dX12_side_73 : decode cX12_side 73 = .ok (.getfield 81, 3) := by decide +kernel
theorem dX12_side_76 : decode cX12_side 76 = .ok (.iload_n 1, 1) := by decide +kernel
theorem dX12_side_77 : decode cX12_side 77 = .ok (.iload_n 2, 1) := by decide +kernel
theorem dX12_side_78 : decode cX12_side 78 = .ok (.iconst 3, 1) := by decide +kernel
theorem dX12_side_79 : decode cX12_side 79 = .ok (.invokestatic 322, 3) := by decide +kernel
theorem dX12_side_82 : decode cX12_side 82 = .ok (.iaload, 1) := by decide +kernel
theorem dX12_side_83 : decode cX12_side 83 = .ok (.isub, 1) := by decide +kernel
theorem dX12_side_84 : decode cX12_side 84 = .ok (.ireturn, 1) := by decide +kernel
theorem dX12_side_85 : decode cX12_side 85 = .ok (.aload_n 0, 1) := by decide +kernel
theorem dX12_side_86 : decode cX12_side 86 = .ok (.getfield 22, 3) := by decide +kernel
theorem dX12_side_89 : decode cX12_side 89 = .ok (.iload_n 2, 1) := by decide +kernel
theorem dX12_side_90 : decode cX12_side 90 = .ok (.iaload, 1) := by decide +kernel
theorem dX12_side_91 : decode cX12_side 91 = .ok (.aload_n 0, 1) := by decide +kernel
theorem dX12_side_92 : decode cX12_side 92 = .ok (.getfield 81, 3) := by decide +kernel
theorem dX12_side_95 : decode cX12_side 95 = .ok (.iload_n 1, 1) := by decide +kernel
theorem dX12_side_96 : decode cX12_side 96 = .ok (.iload_n 2, 1) := by decide +kernel
theorem dX12_side_97 : decode cX12_side 97 = .ok (.iconst 1, 1) := by decide +kernel
theorem dX12_side_98 : decode cX12_side 98 = .ok (.invokestatic 322, 3) := by decide +kernel
theorem dX12_side_101 : decode cX12_side 101 = .ok (.iaload, 1) := by decide +kernel
theorem dX12_side_102 : decode cX12_side 102 = .ok (.iadd, 1) := by decide +kernel
theorem dX12_side_103 : decode cX12_side 103 = .ok (.ireturn, 1) := by decide +kernel
theorem dX12_areaOf_0 : decode cX12_areaOf 0 = .ok (.aload_n 0, 1) := by decide +kernel
theorem dX12_areaOf_1 : decode cX12_areaOf 1 = .ok (.iload_n 1, 1) := by decide +kernel
theorem dX12_areaOf_2 : decode cX12_areaOf 2 = .ok (.iload_n 2, 1) := by decide +kernel
theorem dX12_areaOf_3 : decode cX12_areaOf 3 = .ok (.iconst 1, 1) := by decide +kernel
theorem dX12_areaOf_4 : decode cX12_areaOf 4 = .ok (.invokevirtual 326, 3) := by decide +kernel
theorem dX12_areaOf_7 : decode cX12_areaOf 7 = .ok (.aload_n 0, 1) := by decide +kernel
theorem dX12_areaOf_8 : decode cX12_areaOf 8 = .ok (.iload_n 1, 1) := by decide +kernel
theorem dX12_areaOf_9 : decode cX12_areaOf 9 = .ok (.iload_n 2, 1) := by decide +kernel
theorem dX12_areaOf_10 : decode cX12_areaOf 10 = .ok (.iconst 0, 1) := by decide +kernel
theorem dX12_areaOf_11 : decode cX12_areaOf 11 = .ok (.invokevirtual 326, 3) := by decide +kernel
theorem dX12_areaOf_14 : decode cX12_areaOf 14 = .ok (.isub, 1) := by decide +kernel
theorem dX12_areaOf_15 : decode cX12_areaOf 15 = .ok (.iconst 1, 1) := by decide +kernel
theorem dX12_areaOf_16 : decode cX12_areaOf 16 = .ok (.iadd, 1) := by decide +kernel
theorem dX12_areaOf_17 : decode cX12_areaOf 17 = .ok (.aload_n 0, 1) := by decide +kernel
theorem dX12_areaOf_18 : decode cX12_areaOf 18 = .ok (.iload_n 1, 1) := by decide +kernel
theorem dX12_areaOf_19 : decode cX12_areaOf 19 = .ok (.iload_n 2, 1) := by decide +kernel
theorem dX12_areaOf_20 : decode cX12_areaOf 20 = .ok (.iconst 3, 1) := by decide +kernel
theorem dX12_areaOf_21 : decode cX12_areaOf 21 = .ok (.invokevirtual 326, 3) := by decide +kernel
theorem dX12_areaOf_24 : decode cX12_areaOf 24 = .ok (.aload_n 0, 1) := by decide +kernel
theorem dX12_areaOf_25 : decode cX12_areaOf 25 = .ok (.iload_n 1, 1) := by decide +kernel
theorem dX12_areaOf_26 : decode cX12_areaOf 26 = .ok (.iload_n 2, 1) := by decide +kernel
theorem dX12_areaOf_27 : decode cX12_areaOf 27 = .ok (.iconst 2, 1) := by decide +kernel
theorem dX12_areaOf_28 : decode cX12_areaOf 28 = .ok (.invokevirtual 326, 3) := by decide +kernel
theorem dX12_areaOf_31 : decode cX12_areaOf 31 = .ok (.isub, 1) := by decide +kernel
theorem dX12_areaOf_32 : decode cX12_areaOf 32 = .ok (.iconst 1, 1) := by decide +kernel
theorem dX12_areaOf_33 : decode cX12_areaOf 33 = .ok (.iadd, 1) := by decide +kernel
theorem dX12_areaOf_34 : decode cX12_areaOf 34 = .ok (.imul, 1) := by decide +kernel
theorem dX12_areaOf_35 : decode cX12_areaOf 35 = .ok (.ireturn, 1) := by decide +kernel
theorem dX12_isOf_0 : decode cX12_isOf 0 = .ok (.iload_n 3, 1) := by decide +kernel
theorem dX12_isOf_1 : decode cX12_isOf 1 = .ok (.aload_n 0, 1) := by decide +kernel
theorem dX12_isOf_2 : decode cX12_isOf 2 = .ok (.iload_n 1, 1) := by decide +kernel
theorem dX12_isOf_3 : decode cX12_isOf 3 = .ok (.iload_n 2, 1) := by decide +kernel
theorem dX12_isOf_4 : decode cX12_isOf 4 = .ok (.iconst 0, 1) := by decide +kernel
theorem dX12_isOf_5 : decode cX12_isOf 5 = .ok (.invokevirtual 326, 3) := by decide +kernel
theorem dX12_isOf_8 : decode cX12_isOf 8 = .ok (.if_icmp .lt 42, 3) := by decide +kernel
theorem dX12_isOf_11 : decode cX12_isOf 11 = .ok (.iload_n 3, 1) := by decide +kernel
theorem dX12_isOf_12 : decode cX12_isOf 12 = .ok (.aload_n 0, 1) := by decide +kernel
theorem dX12_isOf_13 : decode cX12_isOf 13 = .ok (.iload_n 1, 1) := by decide +kernel
theorem dX12_isOf_14 : decode cX12_isOf 14 = .ok (.iload_n 2, 1) := by decide +kernel
theorem dX12_isOf_15 : decode cX12_isOf 15 = .ok (.iconst 1, 1) := by decide +kernel
theorem dX12_isOf_16 : decode cX12_isOf 16 = .ok (.invokevirtual 326, 3) := by decide +kernel
theorem dX12_isOf_19 : decode cX12_isOf 19 = .ok (.if_icmp .gt 31, 3) := by decide +kernel
theorem dX12_isOf_22 : decode cX12_isOf 22 = .ok (.iload 4, 2) := by decide +kernel
theorem dX12_isOf_24 : decode cX12_isOf 24 = .ok (.aload_n 0, 1) := by decide +kernel
theorem dX12_isOf_25 : decode cX12_isOf 25 = .ok (.iload_n 1, 1) := by decide +kernel
theorem dX12_isOf_26 : decode cX12_isOf 26 = .ok (.iload_n 2, 1) := by decide +kernel
theorem dX12_isOf_27 : decode cX12_isOf 27 = .ok (.iconst 2, 1) := by decide +kernel
theorem dX12_isOf_28 : decode cX12_isOf 28 = .ok (.invokevirtual 326, 3) := by decide +kernel
theorem dX12_isOf_31 : decode cX12_isOf 31 = .ok (.if_icmp .lt 19, 3) := by decide +kernel
theorem dX12_isOf_34 : decode cX12_isOf 34 = .ok (.iload 4, 2) := by decide +kernel
theorem dX12_isOf_36 : decode cX12_isOf 36 = .ok (.aload_n 0, 1) := by decide +kernel
theorem dX12_isOf_37 : decode cX12_isOf 37 = .ok (.iload_n 1, 1) := by decide +kernel
theorem dX12_isOf_38 : decode cX12_isOf 38 = .ok (.iload_n 2, 1) := by decide +kernel
theorem dX12_isOf_39 : decode cX12_isOf 39 = .ok (.iconst 3, 1) := by decide +kernel
theorem dX12_isOf_40 : decode cX12_isOf 40 = .ok (.invokevirtual 326, 3) := by decide +kernel
theorem dX12_isOf_43 : decode cX12_isOf 43 = .ok (.if_icmp .gt 7, 3) := by decide +kernel
theorem dX12_isOf_46 : decode cX12_isOf 46 = .ok (.iconst 1, 1) := by decide +kernel
theorem dX12_isOf_47 : decode cX12_isOf 47 = .ok (.goto 4, 3) := by decide +kernel
theorem dX12_isOf_50 : decode cX12_isOf 50 = .ok (.iconst 0, 1) := by decide +kernel
theorem dX12_isOf_51 : decode cX12_isOf 51 = .ok (.ireturn, 1) := by decide +kernel
theorem dX12_shared_0 : decode cX12_shared 0 = .ok (.aload_n 0, 1) := by decide +kernel
theorem dX12_shared_1 : decode cX12_shared 1 = .ok (.iload_n 1, 1) := by decide +kernel
theorem dX12_shared_2 : decode cX12_shared 2 = .ok (.iload_n 2, 1) := by decide +kernel
theorem dX12_shared_3 : decode cX12_shared 3 = .ok (.iload 4, 2) := by decide +kernel
theorem dX12_shared_5 : decode cX12_shared 5 = .ok (.iconst 1, 1) := by decide +kernel
theorem dX12_shared_6 : decode cX12_shared 6 = .ok (.iadd, 1) := by decide +kernel
theorem dX12_shared_7 : decode cX12_shared 7 = .ok (.invokevirtual 326, 3) := by decide +kernel
theorem dX12_shared_10 : decode cX12_shared 10 = .ok (.aload_n 0, 1) := by decide +kernel
theorem dX12_shared_11 : decode cX12_shared 11 = .ok (.iload_n 1, 1) := by decide +kernel
theorem dX12_shared_12 : decode cX12_shared 12 = .ok (.iload_n 3, 1) := by decide +kernel
theorem dX12_shared_13 : decode cX12_shared 13 = .ok (.iload 4, 2) := by decide +kernel
theorem dX12_shared_15 : decode cX12_shared 15 = .ok (.iconst 1, 1) := by decide +kernel
theorem dX12_shared_16 : decode cX12_shared 16 = .ok (.iadd, 1) := by decide +kernel
theorem dX12_shared_17 : decode cX12_shared 17 = .ok (.invokevirtual 326, 3) := by decide +kernel
theorem dX12_shared_20 : decode cX12_shared 20 = .ok (.invokestatic 329, 3) := by decide +kernel
theorem dX12_shared_23 : decode cX12_shared 23 = .ok (.aload_n 0, 1) := by decide +kernel
theorem dX12_shared_24 : decode cX12_shared 24 = .ok (.iload_n 1, 1) := by decide +kernel
theorem dX12_shared_25 : decode cX12_shared 25 = .ok (.iload_n 2, 1) := by decide +kernel
theorem dX12_shared_26 : decode cX12_shared 26 = .ok (.iload 4, 2) := by decide +kernel
theorem dX12_shared_28 : decode cX12_shared 28 = .ok (.invokevirtual 326, 3) := by decide +kernel
theorem dX12_shared_31 : decode cX12_shared 31 = .ok (.aload_n 0, 1) := by decide +kernel
theorem dX12_shared_32 : decode cX12_shared 32 = .ok (.iload_n 1, 1) := by decide +kernel
theorem dX12_shared_33 : decode cX12_shared 33 = .ok (.iload_n 3, 1) := by decide +kernel
theorem dX12_shared_34 : decode cX12_shared 34 = .ok (.iload 4, 2) := by decide +kernel
theorem dX12_shared_36 : decode cX12_shared 36 = .ok (.invokevirtual 326, 3) := by decide +kernel
theorem dX12_shared_39 : decode cX12_shared 39 = .ok (.invokestatic 332, 3) := by decide +kernel
theorem dX12_shared_42 : decode cX12_shared 42 = .ok (.isub, 1) := by decide +kernel
theorem dX12_shared_43 : decode cX12_shared 43 = .ok (.iconst 1, 1) := by decide +kernel
theorem dX12_shared_44 : decode cX12_shared 44 = .ok (.iadd, 1) := by decide +kernel
theorem dX12_shared_45 : decode cX12_shared 45 = .ok (.ireturn, 1) := by decide +kernel
theorem dX12_overlapOf_0 : decode cX12_overlapOf 0 = .ok (.iconst 0, 1) := by decide +kernel
theorem dX12_overlapOf_1 : decode cX12_overlapOf 1 = .ok (.aload_n 0, 1) := by decide +kernel
theorem dX12_overlapOf_2 : decode cX12_overlapOf 2 = .ok (.iload_n 1, 1) := by decide +kernel
theorem dX12_overlapOf_3 : decode cX12_overlapOf 3 = .ok (.iload_n 2, 1) := by decide +kernel
theorem dX12_overlapOf_4 : decode cX12_overlapOf 4 = .ok (.iload_n 3, 1) := by decide +kernel
theorem dX12_overlapOf_5 : decode cX12_overlapOf 5 = .ok (.iconst 0, 1) := by decide +kernel
theorem dX12_overlapOf_6 : decode cX12_overlapOf 6 = .ok (.invokevirtual 335, 3) := by decide +kernel
theorem dX12_overlapOf_9 : decode cX12_overlapOf 9 = .ok (.invokestatic 332, 3) := by decide +kernel
theorem dX12_overlapOf_12 : decode cX12_overlapOf 12 = .ok (.iconst 0, 1) := by decide +kernel
theorem dX12_overlapOf_13 : decode cX12_overlapOf 13 = .ok (.aload_n 0, 1) := by decide +kernel
theorem dX12_overlapOf_14 : decode cX12_overlapOf 14 = .ok (.iload_n 1, 1) := by decide +kernel
theorem dX12_overlapOf_15 : decode cX12_overlapOf 15 = .ok (.iload_n 2, 1) := by decide +kernel
theorem dX12_overlapOf_16 : decode cX12_overlapOf 16 = .ok (.iload_n 3, 1) := by decide +kernel
theorem dX12_overlapOf_17 : decode cX12_overlapOf 17 = .ok (.iconst 2, 1) := by decide +kernel
theorem dX12_overlapOf_18 : decode cX12_overlapOf 18 = .ok (.invokevirtual 335, 3) := by decide +kernel
theorem dX12_overlapOf_21 : decode cX12_overlapOf 21 = .ok (.invokestatic 332, 3) := by decide +kernel
theorem dX12_overlapOf_24 : decode cX12_overlapOf 24 = .ok (.imul, 1) := by decide +kernel
theorem dX12_overlapOf_25 : decode cX12_overlapOf 25 = .ok (.ireturn, 1) := by decide +kernel
theorem dX12_areas_0 : decode cX12_areas 0 = .ok (.iconst 0, 1) := by decide +kernel
theorem dX12_areas_1 : decode cX12_areas 1 = .ok (.istore_n 2, 1) := by decide +kernel
theorem dX12_areas_2 : decode cX12_areas 2 = .ok (.iconst 0, 1) := by decide +kernel
theorem dX12_areas_3 : decode cX12_areas 3 = .ok (.istore_n 3, 1) := by decide +kernel
theorem dX12_areas_4 : decode cX12_areas 4 = .ok (.iload_n 3, 1) := by decide +kernel
theorem dX12_areas_5 : decode cX12_areas 5 = .ok (.aload_n 0, 1) := by decide +kernel
theorem dX12_areas_6 : decode cX12_areas 6 = .ok (.getfield 13, 3) := by decide +kernel
theorem dX12_areas_9 : decode cX12_areas 9 = .ok (.iconst 1, 1) := by decide +kernel
theorem dX12_areas_10 : decode cX12_areas 10 = .ok (.iaload, 1) := by decide +kernel
theorem dX12_areas_11 : decode cX12_areas 11 = .ok (.if_icmp .ge 18, 3) := by decide +kernel
theorem dX12_areas_14 : decode cX12_areas 14 = .ok (.iload_n 2, 1) := by decide +kernel
theorem dX12_areas_15 : decode cX12_areas 15 = .ok (.aload_n 0, 1) := by decide +kernel
theorem dX12_areas_16 : decode cX12_areas 16 = .ok (.iload_n 1, 1) := by decide +kernel
theorem dX12_areas_17 : decode cX12_areas 17 = .ok (.iload_n 3, 1) := by decide +kernel
theorem dX12_areas_18 : decode cX12_areas 18 = .ok (.invokevirtual 339, 3) := by decide +kernel
theorem dX12_areas_21 : decode cX12_areas 21 = .ok (.iadd, 1) := by decide +kernel
theorem dX12_areas_22 : decode cX12_areas 22 = .ok (.istore_n 2, 1) := by decide +kernel
theorem dX12_areas_23 : decode cX12_areas 23 = .ok (.iinc 3 1, 3) := by decide +kernel
theorem dX12_areas_26 : decode cX12_areas 26 = .ok (.goto (-22), 3) := by decide +kernel
theorem dX12_areas_29 : decode cX12_areas 29 = .ok (.iload_n 2, 1) := by decide +kernel
theorem dX12_areas_30 : decode cX12_areas 30 = .ok (.ireturn, 1) := by decide +kernel
theorem dX12_overlaps_0 : decode cX12_overlaps 0 = .ok (.iconst 0, 1) := by decide +kernel
theorem dX12_overlaps_1 : decode cX12_overlaps 1 = .ok (.istore_n 2, 1) := by decide +kernel
theorem dX12_overlaps_2 : decode cX12_overlaps 2 = .ok (.iconst 0, 1) := by decide +kernel
theorem dX12_overlaps_3 : decode cX12_overlaps 3 = .ok (.istore_n 3, 1) := by decide +kernel
theorem dX12_overlaps_4 : decode cX12_overlaps 4 = .ok (.iload_n 3, 1) := by decide +kernel
theorem dX12_overlaps_5 : decode cX12_overlaps 5 = .ok (.aload_n 0, 1) := by decide +kernel
theorem dX12_overlaps_6 : decode cX12_overlaps 6 = .ok (.getfield 13, 3) := by decide +kernel
theorem dX12_overlaps_9 : decode cX12_overlaps 9 = .ok (.iconst 1, 1) := by decide +kernel
theorem dX12_overlaps_10 : decode cX12_overlaps 10 = .ok (.iaload, 1) := by decide +kernel
theorem dX12_overlaps_11 : decode cX12_overlaps 11 = .ok (.if_icmp .ge 42, 3) := by decide +kernel
theorem dX12_overlaps_14 : decode cX12_overlaps 14 = .ok (.iload_n 3, 1) := by decide +kernel
theorem dX12_overlaps_15 : decode cX12_overlaps 15 = .ok (.iconst 1, 1) := by decide +kernel
theorem dX12_overlaps_16 : decode cX12_overlaps 16 = .ok (.iadd, 1) := by decide +kernel
theorem dX12_overlaps_17 : decode cX12_overlaps 17 = .ok (.istore 4, 2) := by decide +kernel
theorem dX12_overlaps_19 : decode cX12_overlaps 19 = .ok (.iload 4, 2) := by decide +kernel
theorem dX12_overlaps_21 : decode cX12_overlaps 21 = .ok (.aload_n 0, 1) := by decide +kernel
theorem dX12_overlaps_22 : decode cX12_overlaps 22 = .ok (.getfield 13, 3) := by decide +kernel
theorem dX12_overlaps_25 : decode cX12_overlaps 25 = .ok (.iconst 1, 1) := by decide +kernel
theorem dX12_overlaps_26 : decode cX12_overlaps 26 = .ok (.iaload, 1) := by decide +kernel
theorem dX12_overlaps_27 : decode cX12_overlaps 27 = .ok (.if_icmp .ge 20, 3) := by decide +kernel
theorem dX12_overlaps_30 : decode cX12_overlaps 30 = .ok (.iload_n 2, 1) := by decide +kernel
theorem dX12_overlaps_31 : decode cX12_overlaps 31 = .ok (.aload_n 0, 1) := by decide +kernel
theorem dX12_overlaps_32 : decode cX12_overlaps 32 = .ok (.iload_n 1, 1) := by decide +kernel
theorem dX12_overlaps_33 : decode cX12_overlaps 33 = .ok (.iload_n 3, 1) := by decide +kernel
theorem dX12_overlaps_34 : decode cX12_overlaps 34 = .ok (.iload 4, 2) := by decide +kernel
theorem dX12_overlaps_36 : decode cX12_overlaps 36 = .ok (.invokevirtual 342, 3) := by decide +kernel
theorem dX12_overlaps_39 : decode cX12_overlaps 39 = .ok (.iadd, 1) := by decide +kernel
theorem dX12_overlaps_40 : decode cX12_overlaps 40 = .ok (.istore_n 2, 1) := by decide +kernel
theorem dX12_overlaps_41 : decode cX12_overlaps 41 = .ok (.iinc 4 1, 3) := by decide +kernel
theorem dX12_overlaps_44 : decode cX12_overlaps 44 = .ok (.goto (-25), 3) := by decide +kernel
theorem dX12_overlaps_47 : decode cX12_overlaps 47 = .ok (.iinc 3 1, 3) := by decide +kernel
theorem dX12_overlaps_50 : decode cX12_overlaps 50 = .ok (.goto (-46), 3) := by decide +kernel
theorem dX12_overlaps_53 : decode cX12_overlaps 53 = .ok (.iload_n 2, 1) := by decide +kernel
theorem dX12_overlaps_54 : decode cX12_overlaps 54 = .ok (.ireturn, 1) := by decide +kernel
theorem dX12_doTouch_0 : decode cX12_doTouch 0 = .ok (.aload_n 0, 1) := by decide +kernel
theorem dX12_doTouch_1 : decode cX12_doTouch 1 = .ok (.iconst 0, 1) := by decide +kernel
theorem dX12_doTouch_2 : decode cX12_doTouch 2 = .ok (.iload_n 1, 1) := by decide +kernel
theorem dX12_doTouch_3 : decode cX12_doTouch 3 = .ok (.iload_n 2, 1) := by decide +kernel
theorem dX12_doTouch_4 : decode cX12_doTouch 4 = .ok (.iconst 0, 1) := by decide +kernel
theorem dX12_doTouch_5 : decode cX12_doTouch 5 = .ok (.invokevirtual 335, 3) := by decide +kernel
theorem dX12_doTouch_8 : decode cX12_doTouch 8 = .ok (.istore_n 3, 1) := by decide +kernel
theorem dX12_doTouch_9 : decode cX12_doTouch 9 = .ok (.aload_n 0, 1) := by decide +kernel
theorem dX12_doTouch_10 : decode cX12_doTouch 10 = .ok (.iconst 0, 1) := by decide +kernel
theorem dX12_doTouch_11 : decode cX12_doTouch 11 = .ok (.iload_n 1, 1) := by decide +kernel
theorem dX12_doTouch_12 : decode cX12_doTouch 12 = .ok (.iload_n 2, 1) := by decide +kernel
theorem dX12_doTouch_13 : decode cX12_doTouch 13 = .ok (.iconst 2, 1) := by decide +kernel
theorem dX12_doTouch_14 : decode cX12_doTouch 14 = .ok (.invokevirtual 335, 3) := by decide +kernel
theorem dX12_doTouch_17 : decode cX12_doTouch 17 = .ok (.istore 4, 2) := by decide +kernel
theorem dX12_doTouch_19 : decode cX12_doTouch 19 = .ok (.iload_n 3, 1) := by decide +kernel
theorem dX12_doTouch_20 : decode cX12_doTouch 20 = .ok (.ifCond .le 8, 3) := by decide +kernel
theorem dX12_doTouch_23 : decode cX12_doTouch 23 = .ok (.iload 4, 2) := by decide +kernel
theorem dX12_doTouch_25 : decode cX12_doTouch 25 = .ok (.ifCond .ge 12, 3) := by decide +kernel
theorem dX12_doTouch_28 : decode cX12_doTouch 28 = .ok (.iload_n 3, 1) := by decide +kernel
theorem dX12_doTouch_29 : decode cX12_doTouch 29 = .ok (.ifCond .lt 12, 3) := by decide +kernel
theorem dX12_doTouch_32 : decode cX12_doTouch 32 = .ok (.iload 4, 2) := by decide +kernel
theorem dX12_doTouch_34 : decode cX12_doTouch 34 = .ok (.ifCond .le 7, 3) := by decide +kernel
theorem dX12_doTouch_37 : decode cX12_doTouch 37 = .ok (.iconst 1, 1) := by decide +kernel
theorem dX12_doTouch_38 : decode cX12_doTouch 38 = .ok (.goto 4, 3) := by decide +kernel
theorem dX12_doTouch_41 : decode cX12_doTouch 41 = .ok (.iconst 0, 1) := by decide +kernel
theorem dX12_doTouch_42 : decode cX12_doTouch 42 = .ok (.ireturn, 1) := by decide +kernel
theorem dX12_touchedBy_0 : decode cX12_touchedBy 0 = .ok (.iconst 0, 1) := by decide +kernel
theorem dX12_touchedBy_1 : decode cX12_touchedBy 1 = .ok (.istore_n 2, 1) := by decide +kernel
theorem dX12_touchedBy_2 : decode cX12_touchedBy 2 = .ok (.iconst 0, 1) := by decide +kernel
theorem dX12_touchedBy_3 : decode cX12_touchedBy 3 = .ok (.istore_n 3, 1) := by decide +kernel
theorem dX12_touchedBy_4 : decode cX12_touchedBy 4 = .ok (.iload_n 3, 1) := by decide +kernel
theorem dX12_touchedBy_5 : decode cX12_touchedBy 5 = .ok (.aload_n 0, 1) := by decide +kernel
theorem dX12_touchedBy_6 : decode cX12_touchedBy 6 = .ok (.getfield 13, 3) := by decide +kernel
theorem dX12_touchedBy_9 : decode cX12_touchedBy 9 = .ok (.iconst 1, 1) := by decide +kernel
theorem dX12_touchedBy_10 : decode cX12_touchedBy 10 = .ok (.iaload, 1) := by decide +kernel
theorem dX12_touchedBy_11 : decode cX12_touchedBy 11 = .ok (.if_icmp .ge 33, 3) := by decide +kernel
theorem dX12_touchedBy_14 : decode cX12_touchedBy 14 = .ok (.iload_n 2, 1) := by decide +kernel
theorem dX12_touchedBy_15 : decode cX12_touchedBy 15 = .ok (.iload_n 3, 1) := by decide +kernel
theorem dX12_touchedBy_16 : decode cX12_touchedBy 16 = .ok (.iload_n 1, 1) := by decide +kernel
theorem dX12_touchedBy_17 : decode cX12_touchedBy 17 = .ok (.if_icmp .eq 18, 3) := by decide +kernel
theorem dX12_touchedBy_20 : decode cX12_touchedBy 20 = .ok (.aload_n 0, 1) := by decide +kernel
theorem dX12_touchedBy_21 : decode cX12_touchedBy 21 = .ok (.iload_n 1, 1) := by decide +kernel
theorem dX12_touchedBy_22 : decode cX12_touchedBy 22 = .ok (.iload_n 3, 1) := by decide +kernel
theorem dX12_touchedBy_23 : decode cX12_touchedBy 23 = .ok (.invokevirtual 345, 3) := by decide +kernel
theorem dX12_touchedBy_26 : decode cX12_touchedBy 26 = .ok (.ifCond .eq 9, 3) := by decide +kernel
theorem dX12_touchedBy_29 : decode cX12_touchedBy 29 = .ok (.iconst 1, 1) := by decide +kernel
theorem dX12_touchedBy_30 : decode cX12_touchedBy 30 = .ok (.iload_n 3, 1) := by decide +kernel
theorem dX12_touchedBy_31 : decode cX12_touchedBy 31 = .ok (.ishl, 1) := by decide +kernel
theorem dX12_touchedBy_32 : decode cX12_touchedBy 32 = .ok (.goto 4, 3) := by decide +kernel
theorem dX12_touchedBy_35 : decode cX12_touchedBy 35 = .ok (.iconst 0, 1) := by decide +kernel
theorem dX12_touchedBy_36 : decode cX12_touchedBy 36 = .ok (.ior, 1) := by decide +kernel
theorem dX12_touchedBy_37 : decode cX12_touchedBy 37 = .ok (.istore_n 2, 1) := by decide +kernel
theorem dX12_touchedBy_38 : decode cX12_touchedBy 38 = .ok (.iinc 3 1, 3) := by decide +kernel
theorem dX12_touchedBy_41 : decode cX12_touchedBy 41 = .ok (.goto (-37), 3) := by decide +kernel
theorem dX12_touchedBy_44 : decode cX12_touchedBy 44 = .ok (.iload_n 2, 1) := by decide +kernel
theorem dX12_touchedBy_45 : decode cX12_touchedBy 45 = .ok (.ireturn, 1) := by decide +kernel
theorem dX12_calls_0 : decode cX12_calls 0 = .ok (.aload_n 0, 1) := by decide +kernel
theorem dX12_calls_1 : decode cX12_calls 1 = .ok (.getfield 65, 3) := by decide +kernel
theorem dX12_calls_4 : decode cX12_calls 4 = .ok (.iconst 0, 1) := by decide +kernel
theorem dX12_calls_5 : decode cX12_calls 5 = .ok (.iload_n 2, 1) := by decide +kernel
theorem dX12_calls_6 : decode cX12_calls 6 = .ok (.iconst (-1), 1) := by decide +kernel
theorem dX12_calls_7 : decode cX12_calls 7 = .ok (.if_icmp .ne 7, 3) := by decide +kernel
theorem dX12_calls_10 : decode cX12_calls 10 = .ok (.lconst 0, 1) := by decide +kernel
theorem dX12_calls_11 : decode cX12_calls 11 = .ok (.goto 15, 3) := by decide +kernel
theorem dX12_calls_14 : decode cX12_calls 14 = .ok (.aload_n 0, 1) := by decide +kernel
theorem dX12_calls_15 : decode cX12_calls 15 = .ok (.getfield 87, 3) := by decide +kernel
theorem dX12_calls_18 : decode cX12_calls 18 = .ok (.bipush 6, 2) := by decide +kernel
theorem dX12_calls_20 : decode cX12_calls 20 = .ok (.iload_n 1, 1) := by decide +kernel
theorem dX12_calls_21 : decode cX12_calls 21 = .ok (.imul, 1) := by decide +kernel
theorem dX12_calls_22 : decode cX12_calls 22 = .ok (.iload_n 2, 1) := by decide +kernel
theorem dX12_calls_23 : decode cX12_calls 23 = .ok (.iadd, 1) := by decide +kernel
theorem dX12_calls_24 : decode cX12_calls 24 = .ok (.iaload, 1) := by decide +kernel
theorem dX12_calls_25 : decode cX12_calls 25 = .ok (.i2l, 1) := by decide +kernel
theorem dX12_calls_26 : decode cX12_calls 26 = .ok (.lastore, 1) := by decide +kernel
theorem dX12_calls_27 : decode cX12_calls 27 = .ok (.aload_n 0, 1) := by decide +kernel
theorem dX12_calls_28 : decode cX12_calls 28 = .ok (.getfield 65, 3) := by decide +kernel
theorem dX12_calls_31 : decode cX12_calls 31 = .ok (.iconst 1, 1) := by decide +kernel
theorem dX12_calls_32 : decode cX12_calls 32 = .ok (.iload_n 2, 1) := by decide +kernel
theorem dX12_calls_33 : decode cX12_calls 33 = .ok (.iconst (-1), 1) := by decide +kernel
theorem dX12_calls_34 : decode cX12_calls 34 = .ok (.if_icmp .ne 7, 3) := by decide +kernel
theorem dX12_calls_37 : decode cX12_calls 37 = .ok (.lconst 0, 1) := by decide +kernel
theorem dX12_calls_38 : decode cX12_calls 38 = .ok (.goto 10, 3) := by decide +kernel
theorem dX12_calls_41 : decode cX12_calls 41 = .ok (.aload_n 0, 1) := by decide +kernel
theorem dX12_calls_42 : decode cX12_calls 42 = .ok (.getfield 34, 3) := by decide +kernel
theorem dX12_calls_45 : decode cX12_calls 45 = .ok (.iload_n 2, 1) := by decide +kernel
theorem dX12_calls_46 : decode cX12_calls 46 = .ok (.iaload, 1) := by decide +kernel
theorem dX12_calls_47 : decode cX12_calls 47 = .ok (.i2l, 1) := by decide +kernel
theorem dX12_calls_48 : decode cX12_calls 48 = .ok (.lastore, 1) := by decide +kernel
theorem dX12_calls_49 : decode cX12_calls 49 = .ok (.aload_n 0, 1) := by decide +kernel
theorem dX12_calls_50 : decode cX12_calls 50 = .ok (.getfield 65, 3) := by decide +kernel
theorem dX12_calls_53 : decode cX12_calls 53 = .ok (.iconst 2, 1) := by decide +kernel
theorem dX12_calls_54 : decode cX12_calls 54 = .ok (.iload_n 2, 1) := by decide +kernel
theorem dX12_calls_55 : decode cX12_calls 55 = .ok (.iconst (-1), 1) := by decide +kernel
theorem dX12_calls_56 : decode cX12_calls 56 = .ok (.if_icmp .ne 7, 3) := by decide +kernel
theorem dX12_calls_59 : decode cX12_calls 59 = .ok (.lconst 0, 1) := by decide +kernel
theorem dX12_calls_60 : decode cX12_calls 60 = .ok (.goto 15, 3) := by decide +kernel
theorem dX12_calls_63 : decode cX12_calls 63 = .ok (.aload_n 0, 1) := by decide +kernel
theorem dX12_calls_64 : decode cX12_calls 64 = .ok (.getfield 90, 3) := by decide +kernel
theorem dX12_calls_67 : decode cX12_calls 67 = .ok (.bipush 6, 2) := by decide +kernel
theorem dX12_calls_69 : decode cX12_calls 69 = .ok (.iload_n 1, 1) := by decide +kernel
theorem dX12_calls_70 : decode cX12_calls 70 = .ok (.imul, 1) := by decide +kernel
theorem dX12_calls_71 : decode cX12_calls 71 = .ok (.iload_n 2, 1) := by decide +kernel
theorem dX12_calls_72 : decode cX12_calls 72 = .ok (.iadd, 1) := by decide +kernel
theorem dX12_calls_73 : decode cX12_calls 73 = .ok (.iaload, 1) := by decide +kernel
theorem dX12_calls_74 : decode cX12_calls 74 = .ok (.i2l, 1) := by decide +kernel
theorem dX12_calls_75 : decode cX12_calls 75 = .ok (.lastore, 1) := by decide +kernel
theorem dX12_calls_76 : decode cX12_calls 76 = .ok (.aload_n 0, 1) := by decide +kernel
theorem dX12_calls_77 : decode cX12_calls 77 = .ok (.getfield 65, 3) := by decide +kernel
theorem dX12_calls_80 : decode cX12_calls 80 = .ok (.iconst 3, 1) := by decide +kernel
theorem dX12_calls_81 : decode cX12_calls 81 = .ok (.iload_n 3, 1) := by decide +kernel
theorem dX12_calls_82 : decode cX12_calls 82 = .ok (.i2l, 1) := by decide +kernel
theorem dX12_calls_83 : decode cX12_calls 83 = .ok (.lastore, 1) := by decide +kernel
theorem dX12_calls_84 : decode cX12_calls 84 = .ok (.aload_n 0, 1) := by decide +kernel
theorem dX12_calls_85 : decode cX12_calls 85 = .ok (.getfield 65, 3) := by decide +kernel
theorem dX12_calls_88 : decode cX12_calls 88 = .ok (.iconst 4, 1) := by decide +kernel
theorem dX12_calls_89 : decode cX12_calls 89 = .ok (.iload 4, 2) := by decide +kernel
theorem dX12_calls_91 : decode cX12_calls 91 = .ok (.ifCond .eq 7, 3) := by decide +kernel
theorem dX12_calls_94 : decode cX12_calls 94 = .ok (.lconst 1, 1) := by decide +kernel
theorem dX12_calls_95 : decode cX12_calls 95 = .ok (.goto 4, 3) := by decide +kernel
theorem dX12_calls_98 : decode cX12_calls 98 = .ok (.lconst 0, 1) := by decide +kernel
theorem dX12_calls_99 : decode cX12_calls 99 = .ok (.lastore, 1) := by decide +kernel
theorem dX12_calls_100 : decode cX12_calls 100 = .ok (.aload_n 0, 1) := by decide +kernel
theorem dX12_calls_101 : decode cX12_calls 101 = .ok (.getfield 65, 3) := by decide +kernel
theorem dX12_calls_104 : decode cX12_calls 104 = .ok (.iconst 5, 1) := by decide +kernel
theorem dX12_calls_105 : decode cX12_calls 105 = .ok (.iload 5, 2) := by decide +kernel
theorem dX12_calls_107 : decode cX12_calls 107 = .ok (.i2l, 1) := by decide +kernel
theorem dX12_calls_108 : decode cX12_calls 108 = .ok (.lastore, 1) := by decide +kernel
theorem dX12_calls_109 : decode cX12_calls 109 = .ok (.aload_n 0, 1) := by decide +kernel
theorem dX12_calls_110 : decode cX12_calls 110 = .ok (.getfield 65, 3) := by decide +kernel
theorem dX12_calls_113 : decode cX12_calls 113 = .ok (.bipush 6, 2) := by decide +kernel
theorem dX12_calls_115 : decode cX12_calls 115 = .ok (.aload_n 0, 1) := by decide +kernel
theorem dX12_calls_116 : decode cX12_calls 116 = .ok (.getfield 72, 3) := by decide +kernel
theorem dX12_calls_119 : decode cX12_calls 119 = .ok (.iload_n 1, 1) := by decide +kernel
theorem dX12_calls_120 : decode cX12_calls 120 = .ok (.iaload, 1) := by decide +kernel
theorem dX12_calls_121 : decode cX12_calls 121 = .ok (.i2l, 1) := by decide +kernel
theorem dX12_calls_122 : decode cX12_calls 122 = .ok (.lastore, 1) := by decide +kernel
theorem dX12_calls_123 : decode cX12_calls 123 = .ok (.return_, 1) := by decide +kernel
theorem dX12_within_0 : decode cX12_within 0 = .ok (.aload_n 0, 1) := by decide +kernel
theorem dX12_within_1 : decode cX12_within 1 = .ok (.iload_n 1, 1) := by decide +kernel
theorem dX12_within_2 : decode cX12_within 2 = .ok (.invokevirtual 349, 3) := by decide +kernel
theorem dX12_within_5 : decode cX12_within 5 = .ok (.ifCond .eq 11, 3) := by decide +kernel
theorem dX12_within_8 : decode cX12_within 8 = .ok (.aload_n 0, 1) := by decide +kernel
theorem dX12_within_9 : decode cX12_within 9 = .ok (.iload_n 1, 1) := by decide +kernel
theorem dX12_within_10 : decode cX12_within 10 = .ok (.invokevirtual 352, 3) := by decide +kernel
theorem dX12_within_13 : decode cX12_within 13 = .ok (.ifCond .ne 6, 3) := by decide +kernel
theorem dX12_within_16 : decode cX12_within 16 = .ok (.iload 4, 2) := by decide +kernel
theorem dX12_within_18 : decode cX12_within 18 = .ok (.ireturn, 1) := by decide +kernel
theorem dX12_within_19 : decode cX12_within 19 = .ok (.iload_n 2, 1) := by decide +kernel
theorem dX12_within_20 : decode cX12_within 20 = .ok (.i2l, 1) := by decide +kernel
theorem dX12_within_21 : decode cX12_within 21 = .ok (.iload_n 3, 1) := by decide +kernel
theorem dX12_within_22 : decode cX12_within 22 = .ok (.i2l, 1) := by decide +kernel
theorem dX12_within_23 : decode cX12_within 23 = .ok (.aload_n 0, 1) := by decide +kernel
theorem dX12_within_24 : decode cX12_within 24 = .ok (.getfield 69, 3) := by decide +kernel
theorem dX12_within_27 : decode cX12_within 27 = .ok (.iconst 0, 1) := by decide +kernel
theorem dX12_within_28 : decode cX12_within 28 = .ok (.laload, 1) := by decide +kernel
theorem dX12_within_29 : decode cX12_within 29 = .ok (.invokestatic 355, 3) := by decide +kernel
theorem dX12_within_32 : decode cX12_within 32 = .ok (.invokestatic 358, 3) := by decide +kernel
theorem dX12_within_35 : decode cX12_within 35 = .ok (.l2i, 1) := by decide +kernel
theorem dX12_within_36 : decode cX12_within 36 = .ok (.ireturn, 1) := by decide +kernel
theorem dX12_farBy_0 : decode cX12_farBy 0 = .ok (.iconst 0, 1) := by decide +kernel
theorem dX12_farBy_1 : decode cX12_farBy 1 = .ok (.aload_n 0, 1) := by decide +kernel
theorem dX12_farBy_2 : decode cX12_farBy 2 = .ok (.getfield 87, 3) := by decide +kernel
theorem dX12_farBy_5 : decode cX12_farBy 5 = .ok (.bipush 6, 2) := by decide +kernel
theorem dX12_farBy_7 : decode cX12_farBy 7 = .ok (.iload_n 1, 1) := by decide +kernel
theorem dX12_farBy_8 : decode cX12_farBy 8 = .ok (.imul, 1) := by decide +kernel
theorem dX12_farBy_9 : decode cX12_farBy 9 = .ok (.iload_n 3, 1) := by decide +kernel
theorem dX12_farBy_10 : decode cX12_farBy 10 = .ok (.iadd, 1) := by decide +kernel
theorem dX12_farBy_11 : decode cX12_farBy 11 = .ok (.iaload, 1) := by decide +kernel
theorem dX12_farBy_12 : decode cX12_farBy 12 = .ok (.iload 5, 2) := by decide +kernel
theorem dX12_farBy_14 : decode cX12_farBy 14 = .ok (.iadd, 1) := by decide +kernel
theorem dX12_farBy_15 : decode cX12_farBy 15 = .ok (.aload_n 0, 1) := by decide +kernel
theorem dX12_farBy_16 : decode cX12_farBy 16 = .ok (.getfield 90, 3) := by decide +kernel
theorem dX12_farBy_19 : decode cX12_farBy 19 = .ok (.bipush 6, 2) := by decide +kernel
theorem dX12_farBy_21 : decode cX12_farBy 21 = .ok (.iload_n 1, 1) := by decide +kernel
theorem dX12_farBy_22 : decode cX12_farBy 22 = .ok (.imul, 1) := by decide +kernel
theorem dX12_farBy_23 : decode cX12_farBy 23 = .ok (.iload_n 3, 1) := by decide +kernel
theorem dX12_farBy_24 : decode cX12_farBy 24 = .ok (.iadd, 1) := by decide +kernel
theorem dX12_farBy_25 : decode cX12_farBy 25 = .ok (.iaload, 1) := by decide +kernel
theorem dX12_farBy_26 : decode cX12_farBy 26 = .ok (.isub, 1) := by decide +kernel
theorem dX12_farBy_27 : decode cX12_farBy 27 = .ok (.invokestatic 332, 3) := by decide +kernel
theorem dX12_farBy_30 : decode cX12_farBy 30 = .ok (.istore 7, 2) := by decide +kernel
theorem dX12_farBy_32 : decode cX12_farBy 32 = .ok (.aload_n 0, 1) := by decide +kernel
theorem dX12_farBy_33 : decode cX12_farBy 33 = .ok (.iload_n 1, 1) := by decide +kernel
theorem dX12_farBy_34 : decode cX12_farBy 34 = .ok (.iload_n 3, 1) := by decide +kernel
theorem dX12_farBy_35 : decode cX12_farBy 35 = .ok (.iload 5, 2) := by decide +kernel
theorem dX12_farBy_37 : decode cX12_farBy 37 = .ok (.iload 6, 2) := by decide +kernel
theorem dX12_farBy_39 : decode cX12_farBy 39 = .ok (.aload_n 0, 1) := by decide +kernel
theorem dX12_farBy_40 : decode cX12_farBy 40 = .ok (.getfield 81, 3) := by decide +kernel
theorem dX12_farBy_43 : decode cX12_farBy 43 = .ok (.iload_n 1, 1) := by decide +kernel
theorem dX12_farBy_44 : decode cX12_farBy 44 = .ok (.iload_n 2, 1) := by decide +kernel
theorem dX12_farBy_45 : decode cX12_farBy 45 = .ok (.iload 4, 2) := by decide +kernel
theorem dX12_farBy_47 : decode cX12_farBy 47 = .ok (.invokestatic 322, 3) := by decide +kernel
theorem dX12_farBy_50 : decode cX12_farBy 50 = .ok (.iaload, 1) := by decide +kernel
theorem dX12_farBy_51 : decode cX12_farBy 51 = .ok (.invokevirtual 360, 3) := by decide +kernel
theorem dX12_farBy_54 : decode cX12_farBy 54 = .ok (.aload_n 0, 1) := by decide +kernel
theorem dX12_farBy_55 : decode cX12_farBy 55 = .ok (.iload_n 2, 1) := by decide +kernel
theorem dX12_farBy_56 : decode cX12_farBy 56 = .ok (.iload 4, 2) := by decide +kernel
theorem dX12_farBy_58 : decode cX12_farBy 58 = .ok (.invokevirtual 364, 3) := by decide +kernel
theorem dX12_farBy_61 : decode cX12_farBy 61 = .ok (.aload_n 0, 1) := by decide +kernel
theorem dX12_farBy_62 : decode cX12_farBy 62 = .ok (.iconst 0, 1) := by decide +kernel
theorem dX12_farBy_63 : decode cX12_farBy 63 = .ok (.iconst 0, 1) := by decide +kernel
theorem dX12_farBy_64 : decode cX12_farBy 64 = .ok (.bipush 99, 2) := by decide +kernel
theorem dX12_farBy_66 : decode cX12_farBy 66 = .ok (.iload 6, 2) := by decide +kernel
theorem dX12_farBy_68 : decode cX12_farBy 68 = .ok (.ifCond .eq 10, 3) := by decide +kernel
theorem dX12_farBy_71 : decode cX12_farBy 71 = .ok (.iload 7, 2) := by decide +kernel
theorem dX12_farBy_73 : decode cX12_farBy 73 = .ok (.iconst 2, 1) := by decide +kernel
theorem dX12_farBy_74 : decode cX12_farBy 74 = .ok (.idiv, 1) := by decide +kernel
theorem dX12_farBy_75 : decode cX12_farBy 75 = .ok (.goto 5, 3) := by decide +kernel
theorem dX12_farBy_78 : decode cX12_farBy 78 = .ok (.iload 7, 2) := by decide +kernel
theorem dX12_farBy_80 : decode cX12_farBy 80 = .ok (.invokevirtual 367, 3) := by decide +kernel
theorem dX12_farBy_83 : decode cX12_farBy 83 = .ok (.invokestatic 329, 3) := by decide +kernel
theorem dX12_farBy_86 : decode cX12_farBy 86 = .ok (.ireturn, 1) := by decide +kernel
theorem dX12_cakeIn_0 : decode cX12_cakeIn 0 = .ok (.aload_n 0, 1) := by decide +kernel
theorem dX12_cakeIn_1 : decode cX12_cakeIn 1 = .ok (.getfield 370, 3) := by decide +kernel
theorem dX12_cakeIn_4 : decode cX12_cakeIn 4 = .ok (.iconst 3, 1) := by decide +kernel
theorem dX12_cakeIn_5 : decode cX12_cakeIn 5 = .ok (.if_icmp .ne 7, 3) := by decide +kernel
theorem dX12_cakeIn_8 : decode cX12_cakeIn 8 = .ok (.iconst 0, 1) := by decide +kernel
theorem dX12_cakeIn_9 : decode cX12_cakeIn 9 = .ok (.goto 14, 3) := by decide +kernel
theorem dX12_cakeIn_12 : decode cX12_cakeIn 12 = .ok (.aload_n 0, 1) := by decide +kernel
theorem dX12_cakeIn_13 : decode cX12_cakeIn 13 = .ok (.getfield 84, 3) := by decide +kernel
theorem dX12_cakeIn_16 : decode cX12_cakeIn 16 = .ok (.iload_n 1, 1) := by decide +kernel
theorem dX12_cakeIn_17 : decode cX12_cakeIn 17 = .ok (.iload_n 2, 1) := by decide +kernel
theorem dX12_cakeIn_18 : decode cX12_cakeIn 18 = .ok (.iload_n 3, 1) := by decide +kernel
theorem dX12_cakeIn_19 : decode cX12_cakeIn 19 = .ok (.invokestatic 322, 3) := by decide +kernel
theorem dX12_cakeIn_22 : decode cX12_cakeIn 22 = .ok (.iaload, 1) := by decide +kernel
theorem dX12_cakeIn_23 : decode cX12_cakeIn 23 = .ok (.ireturn, 1) := by decide +kernel
theorem dX12_leads_0 : decode cX12_leads 0 = .ok (.aload_n 0, 1) := by decide +kernel
theorem dX12_leads_1 : decode cX12_leads 1 = .ok (.getfield 81, 3) := by decide +kernel
theorem dX12_leads_4 : decode cX12_leads 4 = .ok (.iload_n 1, 1) := by decide +kernel
theorem dX12_leads_5 : decode cX12_leads 5 = .ok (.iload_n 2, 1) := by decide +kernel
theorem dX12_leads_6 : decode cX12_leads 6 = .ok (.iload 4, 2) := by decide +kernel
theorem dX12_leads_8 : decode cX12_leads 8 = .ok (.invokestatic 322, 3) := by decide +kernel
theorem dX12_leads_11 : decode cX12_leads 11 = .ok (.aload_n 0, 1) := by decide +kernel
theorem dX12_leads_12 : decode cX12_leads 12 = .ok (.iload_n 1, 1) := by decide +kernel
theorem dX12_leads_13 : decode cX12_leads 13 = .ok (.iload_n 2, 1) := by decide +kernel
theorem dX12_leads_14 : decode cX12_leads 14 = .ok (.iload_n 3, 1) := by decide +kernel
theorem dX12_leads_15 : decode cX12_leads 15 = .ok (.iload 4, 2) := by decide +kernel
theorem dX12_leads_17 : decode cX12_leads 17 = .ok (.aload_n 0, 1) := by decide +kernel
theorem dX12_leads_18 : decode cX12_leads 18 = .ok (.iload_n 1, 1) := by decide +kernel
theorem dX12_leads_19 : decode cX12_leads 19 = .ok (.iload_n 2, 1) := by decide +kernel
theorem dX12_leads_20 : decode cX12_leads 20 = .ok (.iload 4, 2) := by decide +kernel
theorem dX12_leads_22 : decode cX12_leads 22 = .ok (.invokevirtual 373, 3) := by decide +kernel
theorem dX12_leads_25 : decode cX12_leads 25 = .ok (.iload 5, 2) := by decide +kernel
theorem dX12_leads_27 : decode cX12_leads 27 = .ok (.invokevirtual 376, 3) := by decide +kernel
theorem dX12_leads_30 : decode cX12_leads 30 = .ok (.iastore, 1) := by decide +kernel
theorem dX12_leads_31 : decode cX12_leads 31 = .ok (.aload_n 0, 1) := by decide +kernel
theorem dX12_leads_32 : decode cX12_leads 32 = .ok (.getfield 370, 3) := by decide +kernel
theorem dX12_leads_35 : decode cX12_leads 35 = .ok (.iconst 4, 1) := by decide +kernel
theorem dX12_leads_36 : decode cX12_leads 36 = .ok (.if_icmp .eq 32, 3) := by decide +kernel
theorem dX12_leads_39 : decode cX12_leads 39 = .ok (.aload_n 0, 1) := by decide +kernel
theorem dX12_leads_40 : decode cX12_leads 40 = .ok (.getfield 90, 3) := by decide +kernel
theorem dX12_leads_43 : decode cX12_leads 43 = .ok (.bipush 6, 2) := by decide +kernel
theorem dX12_leads_45 : decode cX12_leads 45 = .ok (.iload_n 1, 1) := by decide +kernel
theorem dX12_leads_46 : decode cX12_leads 46 = .ok (.imul, 1) := by decide +kernel
theorem dX12_leads_47 : decode cX12_leads 47 = .ok (.iload_n 3, 1) := by decide +kernel
theorem dX12_leads_48 : decode cX12_leads 48 = .ok (.iadd, 1) := by decide +kernel
theorem dX12_leads_49 : decode cX12_leads 49 = .ok (.bipush 99, 2) := by decide +kernel
theorem dX12_leads_51 : decode cX12_leads 51 = .ok (.aload_n 0, 1) := by decide +kernel
theorem dX12_leads_52 : decode cX12_leads 52 = .ok (.getfield 90, 3) := by decide +kernel
theorem dX12_leads_55 : decode cX12_leads 55 = .ok (.bipush 6, 2) := by decide +kernel
theorem dX12_leads_57 : decode cX12_leads 57 = .ok (.iload_n 1, 1) := by decide +kernel
theorem dX12_leads_58 : decode cX12_leads 58 = .ok (.imul, 1) := by decide +kernel
theorem dX12_leads_59 : decode cX12_leads 59 = .ok (.iload_n 3, 1) := by decide +kernel
theorem dX12_leads_60 : decode cX12_leads 60 = .ok (.iadd, 1) := by decide +kernel
theorem dX12_leads_61 : decode cX12_leads 61 = .ok (.iaload, 1) := by decide +kernel
theorem dX12_leads_62 : decode cX12_leads 62 = .ok (.iconst 1, 1) := by decide +kernel
theorem dX12_leads_63 : decode cX12_leads 63 = .ok (.iadd, 1) := by decide +kernel
theorem dX12_leads_64 : decode cX12_leads 64 = .ok (.invokestatic 329, 3) := by decide +kernel
theorem dX12_leads_67 : decode cX12_leads 67 = .ok (.iastore, 1) := by decide +kernel
theorem dX12_leads_68 : decode cX12_leads 68 = .ok (.return_, 1) := by decide +kernel
theorem dX12_isWet_0 : decode cX12_isWet 0 = .ok (.aload_n 0, 1) := by decide +kernel
theorem dX12_isWet_1 : decode cX12_isWet 1 = .ok (.getfield 370, 3) := by decide +kernel
theorem dX12_isWet_4 : decode cX12_isWet 4 = .ok (.iconst 5, 1) := by decide +kernel
theorem dX12_isWet_5 : decode cX12_isWet 5 = .ok (.if_icmp .ne 5, 3) := by decide +kernel
theorem dX12_isWet_8 : decode cX12_isWet 8 = .ok (.iconst 0, 1) := by decide +kernel
theorem dX12_isWet_9 : decode cX12_isWet 9 = .ok (.ireturn, 1) := by decide +kernel
theorem dX12_isWet_10 : decode cX12_isWet 10 = .ok (.aload_n 0, 1) := by decide +kernel
theorem dX12_isWet_11 : decode cX12_isWet 11 = .ok (.getfield 370, 3) := by decide +kernel
theorem dX12_isWet_14 : decode cX12_isWet 14 = .ok (.iconst 1, 1) := by decide +kernel
theorem dX12_isWet_15 : decode cX12_isWet 15 = .ok (.if_icmp .ne 5, 3) := by decide +kernel
theorem dX12_isWet_18 : decode cX12_isWet 18 = .ok (.iconst 1, 1) := by decide +kernel
theorem dX12_isWet_19 : decode cX12_isWet 19 = .ok (.ireturn, 1) := by decide +kernel
theorem dX12_isWet_20 : decode cX12_isWet 20 = .ok (.aload_n 0, 1) := by decide +kernel
theorem dX12_isWet_21 : decode cX12_isWet 21 = .ok (.getfield 13, 3) := by decide +kernel
theorem dX12_isWet_24 : decode cX12_isWet 24 = .ok (.iconst 4, 1) := by decide +kernel
theorem dX12_isWet_25 : decode cX12_isWet 25 = .ok (.iaload, 1) := by decide +kernel
theorem dX12_isWet_26 : decode cX12_isWet 26 = .ok (.istore_n 3, 1) := by decide +kernel
theorem dX12_isWet_27 : decode cX12_isWet 27 = .ok (.iload_n 2, 1) := by decide +kernel
theorem dX12_isWet_28 : decode cX12_isWet 28 = .ok (.ifCond .eq 13, 3) := by decide +kernel
theorem dX12_isWet_31 : decode cX12_isWet 31 = .ok (.iload_n 3, 1) := by decide +kernel
theorem dX12_isWet_32 : decode cX12_isWet 32 = .ok (.ifCond .eq 9, 3) := by decide +kernel
theorem dX12_isWet_35 : decode cX12_isWet 35 = .ok (.iload_n 3, 1) := by decide +kernel
theorem dX12_isWet_36 : decode cX12_isWet 36 = .ok (.bipush 100, 2) := by decide +kernel
theorem dX12_isWet_38 : decode cX12_isWet 38 = .ok (.if_icmp .ne 15, 3) := by decide +kernel
theorem dX12_isWet_41 : decode cX12_isWet 41 = .ok (.iload_n 3, 1) := by decide +kernel
theorem dX12_isWet_42 : decode cX12_isWet 42 = .ok (.bipush 50, 2) := by decide +kernel
theorem dX12_isWet_44 : decode cX12_isWet 44 = .ok (.if_icmp .lt 7, 3) := by decide +kernel
theorem dX12_isWet_47 : decode cX12_isWet 47 = .ok (.iconst 1, 1) := by decide +kernel
theorem dX12_isWet_48 : decode cX12_isWet 48 = .ok (.goto 4, 3) := by decide +kernel
theorem dX12_isWet_51 : decode cX12_isWet 51 = .ok (.iconst 0, 1) := by decide +kernel
theorem dX12_isWet_52 : decode cX12_isWet 52 = .ok (.ireturn, 1) := by decide +kernel
theorem dX12_isWet_53 : decode cX12_isWet 53 = .ok (.aload_n 0, 1) := by decide +kernel
theorem dX12_isWet_54 : decode cX12_isWet 54 = .ok (.getfield 75, 3) := by decide +kernel
theorem dX12_isWet_57 : decode cX12_isWet 57 = .ok (.iload_n 1, 1) := by decide +kernel
theorem dX12_isWet_58 : decode cX12_isWet 58 = .ok (.aload_n 0, 1) := by decide +kernel
theorem dX12_isWet_59 : decode cX12_isWet 59 = .ok (.getfield 75, 3) := by decide +kernel
theorem dX12_isWet_62 : decode cX12_isWet 62 = .ok (.iload_n 1, 1) := by decide +kernel
theorem dX12_isWet_63 : decode cX12_isWet 63 = .ok (.iaload, 1) := by decide +kernel
theorem dX12_isWet_64 : decode cX12_isWet 64 = .ok (.ldc_w 380, 3) := by decide +kernel
theorem dX12_isWet_67 : decode cX12_isWet 67 = .ok (.imul, 1) := by decide +kernel
theorem dX12_isWet_68 : decode cX12_isWet 68 = .ok (.sipush 12345, 3) := by decide +kernel
theorem dX12_isWet_71 : decode cX12_isWet 71 = .ok (.iadd, 1) := by decide +kernel
theorem dX12_isWet_72 : decode cX12_isWet 72 = .ok (.ldc_w 383, 3) := by decide +kernel
theorem dX12_isWet_75 : decode cX12_isWet 75 = .ok (.iand, 1) := by decide +kernel
theorem dX12_isWet_76 : decode cX12_isWet 76 = .ok (.iastore, 1) := by decide +kernel
theorem dX12_isWet_77 : decode cX12_isWet 77 = .ok (.aload_n 0, 1) := by decide +kernel
theorem dX12_isWet_78 : decode cX12_isWet 78 = .ok (.getfield 75, 3) := by decide +kernel
theorem dX12_isWet_81 : decode cX12_isWet 81 = .ok (.iload_n 1, 1) := by decide +kernel
theorem dX12_isWet_82 : decode cX12_isWet 82 = .ok (.iaload, 1) := by decide +kernel
theorem dX12_isWet_83 : decode cX12_isWet 83 = .ok (.bipush 16, 2) := by decide +kernel
theorem dX12_isWet_85 : decode cX12_isWet 85 = .ok (.ishr, 1) := by decide +kernel
theorem dX12_isWet_86 : decode cX12_isWet 86 = .ok (.bipush 100, 2) := by decide +kernel
theorem dX12_isWet_88 : decode cX12_isWet 88 = .ok (.irem, 1) := by decide +kernel
theorem dX12_isWet_89 : decode cX12_isWet 89 = .ok (.iload_n 3, 1) := by decide +kernel
theorem dX12_isWet_90 : decode cX12_isWet 90 = .ok (.if_icmp .ge 7, 3) := by decide +kernel
theorem dX12_isWet_93 : decode cX12_isWet 93 = .ok (.iconst 1, 1) := by decide +kernel
theorem dX12_isWet_94 : decode cX12_isWet 94 = .ok (.goto 4, 3) := by decide +kernel
theorem dX12_isWet_97 : decode cX12_isWet 97 = .ok (.iconst 0, 1) := by decide +kernel
theorem dX12_isWet_98 : decode cX12_isWet 98 = .ok (.ireturn, 1) := by decide +kernel
theorem dX12_passes_0 : decode cX12_passes 0 = .ok (.aload_n 0, 1) := by decide +kernel
theorem dX12_passes_1 : decode cX12_passes 1 = .ok (.iload_n 1, 1) := by decide +kernel
theorem dX12_passes_2 : decode cX12_passes 2 = .ok (.iload_n 2, 1) := by decide +kernel
theorem dX12_passes_3 : decode cX12_passes 3 = .ok (.invokevirtual 384, 3) := by decide +kernel
theorem dX12_passes_6 : decode cX12_passes 6 = .ok (.istore_n 3, 1) := by decide +kernel
theorem dX12_passes_7 : decode cX12_passes 7 = .ok (.iconst 0, 1) := by decide +kernel
theorem dX12_passes_8 : decode cX12_passes 8 = .ok (.istore 4, 2) := by decide +kernel
theorem dX12_passes_10 : decode cX12_passes 10 = .ok (.iload 4, 2) := by decide +kernel
theorem dX12_passes_12 : decode cX12_passes 12 = .ok (.aload_n 0, 1) := by decide +kernel
theorem dX12_passes_13 : decode cX12_passes 13 = .ok (.getfield 13, 3) := by decide +kernel
theorem dX12_passes_16 : decode cX12_passes 16 = .ok (.iconst 3, 1) := by decide +kernel
theorem dX12_passes_17 : decode cX12_passes 17 = .ok (.iaload, 1) := by decide +kernel
theorem dX12_passes_18 : decode cX12_passes 18 = .ok (.if_icmp .ge 74, 3) := by decide +kernel
theorem dX12_passes_21 : decode cX12_passes 21 = .ok (.aload_n 0, 1) := by decide +kernel
theorem dX12_passes_22 : decode cX12_passes 22 = .ok (.getfield 46, 3) := by decide +kernel
theorem dX12_passes_25 : decode cX12_passes 25 = .ok (.iload 4, 2) := by decide +kernel
theorem dX12_passes_27 : decode cX12_passes 27 = .ok (.iaload, 1) := by decide +kernel
theorem dX12_passes_28 : decode cX12_passes 28 = .ok (.aload_n 0, 1) := by decide +kernel
theorem dX12_passes_29 : decode cX12_passes 29 = .ok (.getfield 72, 3) := by decide +kernel
theorem dX12_passes_32 : decode cX12_passes 32 = .ok (.iload_n 1, 1) := by decide +kernel
theorem dX12_passes_33 : decode cX12_passes 33 = .ok (.iaload, 1) := by decide +kernel
theorem dX12_passes_34 : decode cX12_passes 34 = .ok (.if_icmp .ne 52, 3) := by decide +kernel
theorem dX12_passes_37 : decode cX12_passes 37 = .ok (.aload_n 0, 1) := by decide +kernel
theorem dX12_passes_38 : decode cX12_passes 38 = .ok (.getfield 370, 3) := by decide +kernel
theorem dX12_passes_41 : decode cX12_passes 41 = .ok (.iconst 2, 1) := by decide +kernel
theorem dX12_passes_42 : decode cX12_passes 42 = .ok (.if_icmp .ne 17, 3) := by decide +kernel
theorem dX12_passes_45 : decode cX12_passes 45 = .ok (.aload_n 0, 1) := by decide +kernel
theorem dX12_passes_46 : decode cX12_passes 46 = .ok (.getfield 40, 3) := by decide +kernel
theorem dX12_passes_49 : decode cX12_passes 49 = .ok (.iload 4, 2) := by decide +kernel
theorem dX12_passes_51 : decode cX12_passes 51 = .ok (.iaload, 1) := by decide +kernel
theorem dX12_passes_52 : decode cX12_passes 52 = .ok (.aload_n 0, 1) := by decide +kernel
theorem dX12_passes_53 : decode cX12_passes 53 = .ok (.getfield 93, 3) := by decide +kernel
theorem dX12_passes_56 : decode cX12_passes 56 = .ok (.if_icmp .eq 30, 3) := by decide +kernel
theorem dX12_passes_59 : decode cX12_passes 59 = .ok (.aload_n 0, 1) := by decide +kernel
theorem dX12_passes_60 : decode cX12_passes 60 = .ok (.iload_n 1, 1) := by decide +kernel
theorem dX12_passes_61 : decode cX12_passes 61 = .ok (.aload_n 0, 1) := by decide +kernel
theorem dX12_passes_62 : decode cX12_passes 62 = .ok (.getfield 37, 3) := by decide +kernel
theorem dX12_passes_65 : decode cX12_passes 65 = .ok (.iload 4, 2) := by decide +kernel
theorem dX12_passes_67 : decode cX12_passes 67 = .ok (.iaload, 1) := by decide +kernel
theorem dX12_passes_68 : decode cX12_passes 68 = .ok (.aload_n 0, 1) := by decide +kernel
theorem dX12_passes_69 : decode cX12_passes 69 = .ok (.getfield 40, 3) := by decide +kernel
theorem dX12_passes_72 : decode cX12_passes 72 = .ok (.iload 4, 2) := by decide +kernel
theorem dX12_passes_74 : decode cX12_passes 74 = .ok (.iaload, 1) := by decide +kernel
theorem dX12_passes_75 : decode cX12_passes 75 = .ok (.aload_n 0, 1) := by decide +kernel
theorem dX12_passes_76 : decode cX12_passes 76 = .ok (.getfield 43, 3) := by decide +kernel
theorem dX12_passes_79 : decode cX12_passes 79 = .ok (.iload 4, 2) := by decide +kernel
theorem dX12_passes_81 : decode cX12_passes 81 = .ok (.iaload, 1) := by decide +kernel
theorem dX12_passes_82 : decode cX12_passes 82 = .ok (.iload_n 3, 1) := by decide +kernel
theorem dX12_passes_83 : decode cX12_passes 83 = .ok (.invokevirtual 388, 3) := by decide +kernel
theorem dX12_passes_86 : decode cX12_passes 86 = .ok (.iinc 4 1, 3) := by decide +kernel
theorem dX12_passes_89 : decode cX12_passes 89 = .ok (.goto (-79), 3) := by decide +kernel
theorem dX12_passes_92 : decode cX12_passes 92 = .ok (.iconst 0, 1) := by decide +kernel
theorem dX12_passes_93 : decode cX12_passes 93 = .ok (.istore 4, 2) := by decide +kernel
theorem dX12_passes_95 : decode cX12_passes 95 = .ok (.iload 4, 2) := by decide +kernel
theorem dX12_passes_97 : decode cX12_passes 97 = .ok (.aload_n 0, 1) := by decide +kernel
theorem dX12_passes_98 : decode cX12_passes 98 = .ok (.getfield 13, 3) := by decide +kernel
theorem dX12_passes_101 : decode cX12_passes 101 = .ok (.iconst 1, 1) := by decide +kernel
theorem dX12_passes_102 : decode cX12_passes 102 = .ok (.iaload, 1) := by decide +kernel
theorem dX12_passes_103 : decode cX12_passes 103 = .ok (.if_icmp .ge 90, 3) := by decide +kernel
theorem dX12_passes_106 : decode cX12_passes 106 = .ok (.iload 4, 2) := by decide +kernel
theorem dX12_passes_108 : decode cX12_passes 108 = .ok (.iconst 1, 1) := by decide +kernel
theorem dX12_passes_109 : decode cX12_passes 109 = .ok (.iadd, 1) := by decide +kernel
theorem dX12_passes_110 : decode cX12_passes 110 = .ok (.istore 5, 2) := by decide +kernel
theorem dX12_passes_112 : decode cX12_passes 112 = .ok (.iload 5, 2) := by decide +kernel
theorem dX12_passes_114 : decode cX12_passes 114 = .ok (.aload_n 0, 1) := by decide +kernel
theorem dX12_passes_115 : decode cX12_passes 115 = .ok (.getfield 13, 3) := by decide +kernel
theorem dX12_passes_118 : decode cX12_passes 118 = .ok (.iconst 1, 1) := by decide +kernel
theorem dX12_passes_119 : decode cX12_passes 119 = .ok (.iaload, 1) := by decide +kernel
theorem dX12_passes_120 : decode cX12_passes 120 = .ok (.if_icmp .ge 67, 3) := by decide +kernel
theorem dX12_passes_123 : decode cX12_passes 123 = .ok (.aload_n 0, 1) := by decide +kernel
theorem dX12_passes_124 : decode cX12_passes 124 = .ok (.iload_n 1, 1) := by decide +kernel
theorem dX12_passes_125 : decode cX12_passes 125 = .ok (.iload 4, 2) := by decide +kernel
theorem dX12_passes_127 : decode cX12_passes 127 = .ok (.iload 5, 2) := by decide +kernel
theorem dX12_passes_129 : decode cX12_passes 129 = .ok (.invokevirtual 342, 3) := by decide +kernel
theorem dX12_passes_132 : decode cX12_passes 132 = .ok (.istore 6, 2) := by decide +kernel
theorem dX12_passes_134 : decode cX12_passes 134 = .ok (.iload 6, 2) := by decide +kernel
theorem dX12_passes_136 : decode cX12_passes 136 = .ok (.ifCond .ne 6, 3) := by decide +kernel
theorem dX12_passes_139 : decode cX12_passes 139 = .ok (.goto 42, 3) := by decide +kernel
theorem dX12_passes_142 : decode cX12_passes 142 = .ok (.aload_n 0, 1) := by decide +kernel
theorem dX12_passes_143 : decode cX12_passes 143 = .ok (.iload_n 1, 1) := by decide +kernel
theorem dX12_passes_144 : decode cX12_passes 144 = .ok (.iconst (-1), 1) := by decide +kernel
theorem dX12_passes_145 : decode cX12_passes 145 = .ok (.iconst 0, 1) := by decide +kernel
theorem dX12_passes_146 : decode cX12_passes 146 = .ok (.iload_n 3, 1) := by decide +kernel
theorem dX12_passes_147 : decode cX12_passes 147 = .ok (.iload 6, 2) := by decide +kernel
theorem dX12_passes_149 : decode cX12_passes 149 = .ok (.invokevirtual 360, 3) := by decide +kernel
theorem dX12_passes_152 : decode cX12_passes 152 = .ok (.aload_n 0, 1) := by decide +kernel
theorem dX12_passes_153 : decode cX12_passes 153 = .ok (.getfield 78, 3) := by decide +kernel
theorem dX12_passes_156 : decode cX12_passes 156 = .ok (.iload_n 1, 1) := by decide +kernel
theorem dX12_passes_157 : decode cX12_passes 157 = .ok (.ldc 174, 2) := by decide +kernel
theorem dX12_passes_159 : decode cX12_passes 159 = .ok (.aload_n 0, 1) := by decide +kernel
theorem dX12_passes_160 : decode cX12_passes 160 = .ok (.getfield 78, 3) := by decide +kernel
theorem dX12_passes_163 : decode cX12_passes 163 = .ok (.iload_n 1, 1) := by decide +kernel
theorem dX12_passes_164 : decode cX12_passes 164 = .ok (.iaload, 1) := by decide +kernel
theorem dX12_passes_165 : decode cX12_passes 165 = .ok (.aload_n 0, 1) := by decide +kernel
theorem dX12_passes_166 : decode cX12_passes 166 = .ok (.iconst 1, 1) := by decide +kernel
theorem dX12_passes_167 : decode cX12_passes 167 = .ok (.iconst 0, 1) := by decide +kernel
theorem dX12_passes_168 : decode cX12_passes 168 = .ok (.sipush 999, 3) := by decide +kernel
theorem dX12_passes_171 : decode cX12_passes 171 = .ok (.iload 6, 2) := by decide +kernel
theorem dX12_passes_173 : decode cX12_passes 173 = .ok (.invokevirtual 367, 3) := by decide +kernel
theorem dX12_passes_176 : decode cX12_passes 176 = .ok (.iadd, 1) := by decide +kernel
theorem dX12_passes_177 : decode cX12_passes 177 = .ok (.invokestatic 329, 3) := by decide +kernel
theorem dX12_passes_180 : decode cX12_passes 180 = .ok (.iastore, 1) := by decide +kernel
theorem dX12_passes_181 : decode cX12_passes 181 = .ok (.iinc 5 1, 3) := by decide +kernel
theorem dX12_passes_184 : decode cX12_passes 184 = .ok (.goto (-72), 3) := by decide +kernel
theorem dX12_passes_187 : decode cX12_passes 187 = .ok (.iinc 4 1, 3) := by decide +kernel
theorem dX12_passes_190 : decode cX12_passes 190 = .ok (.goto (-95), 3) := by decide +kernel
theorem dX12_passes_193 : decode cX12_passes 193 = .ok (.iconst 0, 1) := by decide +kernel
theorem dX12_passes_194 : decode cX12_passes 194 = .ok (.istore 4, 2) := by decide +kernel
theorem dX12_passes_196 : decode cX12_passes 196 = .ok (.iload 4, 2) := by decide +kernel
theorem dX12_passes_198 : decode cX12_passes 198 = .ok (.aload_n 0, 1) := by decide +kernel
theorem dX12_passes_199 : decode cX12_passes 199 = .ok (.getfield 13, 3) := by decide +kernel
theorem dX12_passes_202 : decode cX12_passes 202 = .ok (.iconst 2, 1) := by decide +kernel
theorem dX12_passes_203 : decode cX12_passes 203 = .ok (.iaload, 1) := by decide +kernel
theorem dX12_passes_204 : decode cX12_passes 204 = .ok (.if_icmp .ge 82, 3) := by decide +kernel
theorem dX12_passes_207 : decode cX12_passes 207 = .ok (.bipush 6, 2) := by decide +kernel
theorem dX12_passes_209 : decode cX12_passes 209 = .ok (.iload_n 1, 1) := by decide +kernel
theorem dX12_passes_210 : decode cX12_passes 210 = .ok (.imul, 1) := by decide +kernel
theorem dX12_passes_211 : decode cX12_passes 211 = .ok (.iload 4, 2) := by decide +kernel
theorem dX12_passes_213 : decode cX12_passes 213 = .ok (.iadd, 1) := by decide +kernel
theorem dX12_passes_214 : decode cX12_passes 214 = .ok (.istore 5, 2) := by decide +kernel
theorem dX12_passes_216 : decode cX12_passes 216 = .ok (.aload_n 0, 1) := by decide +kernel
theorem dX12_passes_217 : decode cX12_passes 217 = .ok (.getfield 90, 3) := by decide +kernel
theorem dX12_passes_220 : decode cX12_passes 220 = .ok (.iload 5, 2) := by decide +kernel
theorem dX12_passes_222 : decode cX12_passes 222 = .ok (.iconst 0, 1) := by decide +kernel
theorem dX12_passes_223 : decode cX12_passes 223 = .ok (.aload_n 0, 1) := by decide +kernel
theorem dX12_passes_224 : decode cX12_passes 224 = .ok (.getfield 90, 3) := by decide +kernel
theorem dX12_passes_227 : decode cX12_passes 227 = .ok (.iload 5, 2) := by decide +kernel
theorem dX12_passes_229 : decode cX12_passes 229 = .ok (.iaload, 1) := by decide +kernel
theorem dX12_passes_230 : decode cX12_passes 230 = .ok (.iconst 1, 1) := by decide +kernel
theorem dX12_passes_231 : decode cX12_passes 231 = .ok (.isub, 1) := by decide +kernel
theorem dX12_passes_232 : decode cX12_passes 232 = .ok (.invokestatic 332, 3) := by decide +kernel
theorem dX12_passes_235 : decode cX12_passes 235 = .ok (.iastore, 1) := by decide +kernel
theorem dX12_passes_236 : decode cX12_passes 236 = .ok (.aload_n 0, 1) := by decide +kernel
theorem dX12_passes_237 : decode cX12_passes 237 = .ok (.iload_n 1, 1) := by decide +kernel
theorem dX12_passes_238 : decode cX12_passes 238 = .ok (.iload 4, 2) := by decide +kernel
theorem dX12_passes_240 : decode cX12_passes 240 = .ok (.iconst 0, 1) := by decide +kernel
theorem dX12_passes_241 : decode cX12_passes 241 = .ok (.iload_n 3, 1) := by decide +kernel
theorem dX12_passes_242 : decode cX12_passes 242 = .ok (.iconst 0, 1) := by decide +kernel
theorem dX12_passes_243 : decode cX12_passes 243 = .ok (.invokevirtual 360, 3) := by decide +kernel
theorem dX12_passes_246 : decode cX12_passes 246 = .ok (.aload_n 0, 1) := by decide +kernel
theorem dX12_passes_247 : decode cX12_passes 247 = .ok (.getfield 87, 3) := by decide +kernel
theorem dX12_passes_250 : decode cX12_passes 250 = .ok (.iload 5, 2) := by decide +kernel
theorem dX12_passes_252 : decode cX12_passes 252 = .ok (.iconst 0, 1) := by decide +kernel
theorem dX12_passes_253 : decode cX12_passes 253 = .ok (.bipush 30, 2) := by decide +kernel
theorem dX12_passes_255 : decode cX12_passes 255 = .ok (.aload_n 0, 1) := by decide +kernel
theorem dX12_passes_256 : decode cX12_passes 256 = .ok (.getfield 87, 3) := by decide +kernel
theorem dX12_passes_259 : decode cX12_passes 259 = .ok (.iload 5, 2) := by decide +kernel
theorem dX12_passes_261 : decode cX12_passes 261 = .ok (.iaload, 1) := by decide +kernel
theorem dX12_passes_262 : decode cX12_passes 262 = .ok (.aload_n 0, 1) := by decide +kernel
theorem dX12_passes_263 : decode cX12_passes 263 = .ok (.iconst 2, 1) := by decide +kernel
theorem dX12_passes_264 : decode cX12_passes 264 = .ok (.bipush (-9), 2) := by decide +kernel
theorem dX12_passes_266 : decode cX12_passes 266 = .ok (.bipush 9, 2) := by decide +kernel
theorem dX12_passes_268 : decode cX12_passes 268 = .ok (.iconst 0, 1) := by decide +kernel
theorem dX12_passes_269 : decode cX12_passes 269 = .ok (.invokevirtual 367, 3) := by decide +kernel
theorem dX12_passes_272 : decode cX12_passes 272 = .ok (.iadd, 1) := by decide +kernel
theorem dX12_passes_273 : decode cX12_passes 273 = .ok (.invokestatic 329, 3) := by decide +kernel
theorem dX12_passes_276 : decode cX12_passes 276 = .ok (.invokestatic 332, 3) := by decide +kernel
theorem dX12_passes_279 : decode cX12_passes 279 = .ok (.iastore, 1) := by decide +kernel
theorem dX12_passes_280 : decode cX12_passes 280 = .ok (.iinc 4 1, 3) := by decide +kernel
theorem dX12_passes_283 : decode cX12_passes 283 = .ok (.goto (-87), 3) := by decide +kernel
theorem dX12_passes_286 : decode cX12_passes 286 = .ok (.aload_n 0, 1) := by decide +kernel
theorem dX12_passes_287 : decode cX12_passes 287 = .ok (.getfield 72, 3) := by decide +kernel
theorem dX12_passes_290 : decode cX12_passes 290 = .ok (.iload_n 1, 1) := by decide +kernel
theorem dX12_passes_291 : decode cX12_passes 291 = .ok (.dup2, 1) := by decide +kernel
theorem dX12_passes_292 : decode cX12_passes 292 = .ok (.iaload, 1) := by decide +kernel
theorem dX12_passes_293 : decode cX12_passes 293 = .ok (.iconst 1, 1) := by decide +kernel
theorem dX12_passes_294 : decode cX12_passes 294 = .ok (.iadd, 1) := by decide +kernel
theorem dX12_passes_295 : decode cX12_passes 295 = .ok (.iastore, 1) := by decide +kernel
theorem dX12_passes_296 : decode cX12_passes 296 = .ok (.return_, 1) := by decide +kernel
theorem dX12_goesOn_0 : decode cX12_goesOn 0 = .ok (.iconst 0, 1) := by decide +kernel
theorem dX12_goesOn_1 : decode cX12_goesOn 1 = .ok (.istore_n 2, 1) := by decide +kernel
theorem dX12_goesOn_2 : decode cX12_goesOn 2 = .ok (.iload_n 2, 1) := by decide +kernel
theorem dX12_goesOn_3 : decode cX12_goesOn 3 = .ok (.iload_n 1, 1) := by decide +kernel
theorem dX12_goesOn_4 : decode cX12_goesOn 4 = .ok (.if_icmp .ge 15, 3) := by decide +kernel
theorem dX12_goesOn_7 : decode cX12_goesOn 7 = .ok (.aload_n 0, 1) := by decide +kernel
theorem dX12_goesOn_8 : decode cX12_goesOn 8 = .ok (.iconst 1, 1) := by decide +kernel
theorem dX12_goesOn_9 : decode cX12_goesOn 9 = .ok (.iconst 0, 1) := by decide +kernel
theorem dX12_goesOn_10 : decode cX12_goesOn 10 = .ok (.invokevirtual 392, 3) := by decide +kernel
theorem dX12_goesOn_13 : decode cX12_goesOn 13 = .ok (.iinc 2 1, 3) := by decide +kernel
theorem dX12_goesOn_16 : decode cX12_goesOn 16 = .ok (.goto (-14), 3) := by decide +kernel
theorem dX12_goesOn_19 : decode cX12_goesOn 19 = .ok (.return_, 1) := by decide +kernel
theorem dX12_legsAll_0 : decode cX12_legsAll 0 = .ok (.iconst 0, 1) := by decide +kernel
theorem dX12_legsAll_1 : decode cX12_legsAll 1 = .ok (.istore_n 2, 1) := by decide +kernel
theorem dX12_legsAll_2 : decode cX12_legsAll 2 = .ok (.iconst 0, 1) := by decide +kernel
theorem dX12_legsAll_3 : decode cX12_legsAll 3 = .ok (.istore_n 3, 1) := by decide +kernel
theorem dX12_legsAll_4 : decode cX12_legsAll 4 = .ok (.iload_n 3, 1) := by decide +kernel
theorem dX12_legsAll_5 : decode cX12_legsAll 5 = .ok (.aload_n 0, 1) := by decide +kernel
theorem dX12_legsAll_6 : decode cX12_legsAll 6 = .ok (.getfield 13, 3) := by decide +kernel
theorem dX12_legsAll_9 : decode cX12_legsAll 9 = .ok (.iconst 2, 1) := by decide +kernel
theorem dX12_legsAll_10 : decode cX12_legsAll 10 = .ok (.iaload, 1) := by decide +kernel
theorem dX12_legsAll_11 : decode cX12_legsAll 11 = .ok (.if_icmp .ge 23, 3) := by decide +kernel
theorem dX12_legsAll_14 : decode cX12_legsAll 14 = .ok (.iload_n 2, 1) := by decide +kernel
theorem dX12_legsAll_15 : decode cX12_legsAll 15 = .ok (.aload_n 0, 1) := by decide +kernel
theorem dX12_legsAll_16 : decode cX12_legsAll 16 = .ok (.getfield 87, 3) := by decide +kernel
theorem dX12_legsAll_19 : decode cX12_legsAll 19 = .ok (.bipush 6, 2) := by decide +kernel
theorem dX12_legsAll_21 : decode cX12_legsAll 21 = .ok (.iload_n 1, 1) := by decide +kernel
theorem dX12_legsAll_22 : decode cX12_legsAll 22 = .ok (.imul, 1) := by decide +kernel
theorem dX12_legsAll_23 : decode cX12_legsAll 23 = .ok (.iload_n 3, 1) := by decide +kernel
theorem dX12_legsAll_24 : decode cX12_legsAll 24 = .ok (.iadd, 1) := by decide +kernel
theorem dX12_legsAll_25 : decode cX12_legsAll 25 = .ok (.iaload, 1) := by decide +kernel
theorem dX12_legsAll_26 : decode cX12_legsAll 26 = .ok (.iadd, 1) := by decide +kernel
theorem dX12_legsAll_27 : decode cX12_legsAll 27 = .ok (.istore_n 2, 1) := by decide +kernel
theorem dX12_legsAll_28 : decode cX12_legsAll 28 = .ok (.iinc 3 1, 3) := by decide +kernel
theorem dX12_legsAll_31 : decode cX12_legsAll 31 = .ok (.goto (-27), 3) := by decide +kernel
theorem dX12_legsAll_34 : decode cX12_legsAll 34 = .ok (.iload_n 2, 1) := by decide +kernel
theorem dX12_legsAll_35 : decode cX12_legsAll 35 = .ok (.ireturn, 1) := by decide +kernel
theorem dX12_parish_0 : decode cX12_parish 0 = .ok (.aload_n 0, 1) := by decide +kernel
theorem dX12_parish_1 : decode cX12_parish 1 = .ok (.aload_n 0, 1) := by decide +kernel
theorem dX12_parish_2 : decode cX12_parish 2 = .ok (.iload_n 1, 1) := by decide +kernel
theorem dX12_parish_3 : decode cX12_parish 3 = .ok (.invokevirtual 396, 3) := by decide +kernel
theorem dX12_parish_6 : decode cX12_parish 6 = .ok (.ifCond .ne 7, 3) := by decide +kernel
theorem dX12_parish_9 : decode cX12_parish 9 = .ok (.iconst 1, 1) := by decide +kernel
theorem dX12_parish_10 : decode cX12_parish 10 = .ok (.goto 18, 3) := by decide +kernel
theorem dX12_parish_13 : decode cX12_parish 13 = .ok (.iload_n 2, 1) := by decide +kernel
theorem dX12_parish_14 : decode cX12_parish 14 = .ok (.ifCond .lt 9, 3) := by decide +kernel
theorem dX12_parish_17 : decode cX12_parish 17 = .ok (.iload_n 2, 1) := by decide +kernel
theorem dX12_parish_18 : decode cX12_parish 18 = .ok (.bipush 7, 2) := by decide +kernel
theorem dX12_parish_20 : decode cX12_parish 20 = .ok (.if_icmp .le 7, 3) := by decide +kernel
theorem dX12_parish_23 : decode cX12_parish 23 = .ok (.iconst 2, 1) := by decide +kernel
theorem dX12_parish_24 : decode cX12_parish 24 = .ok (.goto 4, 3) := by decide +kernel
theorem dX12_parish_27 : decode cX12_parish 27 = .ok (.iconst 0, 1) := by decide +kernel
theorem dX12_parish_28 : decode cX12_parish 28 = .ok (.putfield 136, 3) := by decide +kernel
theorem dX12_parish_31 : decode cX12_parish 31 = .ok (.aload_n 0, 1) := by decide +kernel
theorem dX12_parish_32 : decode cX12_parish 32 = .ok (.getfield 136, 3) := by decide +kernel
theorem dX12_parish_35 : decode cX12_parish 35 = .ok (.ifCond .eq 5, 3) := by decide +kernel
theorem dX12_parish_38 : decode cX12_parish 38 = .ok (.iconst 0, 1) := by decide +kernel
theorem dX12_parish_39 : decode cX12_parish 39 = .ok (.ireturn, 1) := by decide +kernel
theorem dX12_parish_40 : decode cX12_parish 40 = .ok (.iload_n 2, 1) := by decide +kernel
theorem dX12_parish_41 : decode cX12_parish 41 = .ok (.tableswitch 74 0 7 #[47, 54, 74, 74, 74, 74, 61, 68], 47) := by decide +kernel
theorem dX12_parish_88 : decode cX12_parish 88 = .ok (.aload_n 0, 1) := by decide +kernel
theorem dX12_parish_89 : decode cX12_parish 89 = .ok (.getfield 19, 3) := by decide +kernel
theorem dX12_parish_92 : decode cX12_parish 92 = .ok (.iload_n 1, 1) := by decide +kernel
theorem dX12_parish_93 : decode cX12_parish 93 = .ok (.iaload, 1) := by decide +kernel
theorem dX12_parish_94 : decode cX12_parish 94 = .ok (.ireturn, 1) := by decide +kernel
theorem dX12_parish_95 : decode cX12_parish 95 = .ok (.aload_n 0, 1) := by decide +kernel
theorem dX12_parish_96 : decode cX12_parish 96 = .ok (.getfield 22, 3) := by decide +kernel
theorem dX12_parish_99 : decode cX12_parish 99 = .ok (.iload_n 1, 1) := by decide +kernel
theorem dX12_parish_100 : decode cX12_parish 100 = .ok (.iaload, 1) := by decide +kernel
theorem dX12_parish_101 : decode cX12_parish 101 = .ok (.ireturn, 1) := by decide +kernel
theorem dX12_parish_102 : decode cX12_parish 102 = .ok (.aload_n 0, 1) := by decide +kernel
theorem dX12_parish_103 : decode cX12_parish 103 = .ok (.iconst 0, 1) := by decide +kernel
theorem dX12_parish_104 : decode cX12_parish 104 = .ok (.iload_n 1, 1) := by decide +kernel
theorem dX12_parish_105 : decode cX12_parish 105 = .ok (.invokevirtual 339, 3) := by decide +kernel
theorem dX12_parish_108 : decode cX12_parish 108 = .ok (.ireturn, 1) := by decide +kernel
theorem dX12_parish_109 : decode cX12_parish 109 = .ok (.aload_n 0, 1) := by decide +kernel
theorem dX12_parish_110 : decode cX12_parish 110 = .ok (.iload_n 1, 1) := by decide +kernel
theorem dX12_parish_111 : decode cX12_parish 111 = .ok (.invokevirtual 399, 3) := by decide +kernel
theorem dX12_parish_114 : decode cX12_parish 114 = .ok (.ireturn, 1) := by decide +kernel
theorem dX12_parish_115 : decode cX12_parish 115 = .ok (.aload_n 0, 1) := by decide +kernel
theorem dX12_parish_116 : decode cX12_parish 116 = .ok (.getfield 81, 3) := by decide +kernel
theorem dX12_parish_119 : decode cX12_parish 119 = .ok (.iconst 0, 1) := by decide +kernel
theorem dX12_parish_120 : decode cX12_parish 120 = .ok (.iload_n 1, 1) := by decide +kernel
theorem dX12_parish_121 : decode cX12_parish 121 = .ok (.iload_n 2, 1) := by decide +kernel
theorem dX12_parish_122 : decode cX12_parish 122 = .ok (.iconst 2, 1) := by decide +kernel
theorem dX12_parish_123 : decode cX12_parish 123 = .ok (.isub, 1) := by decide +kernel
theorem dX12_parish_124 : decode cX12_parish 124 = .ok (.invokestatic 322, 3) := by decide +kernel
theorem dX12_parish_127 : decode cX12_parish 127 = .ok (.iaload, 1) := by decide +kernel
theorem dX12_parish_128 : decode cX12_parish 128 = .ok (.ireturn, 1) := by decide +kernel
theorem dX12_child_0 : decode cX12_child 0 = .ok (.aload_n 0, 1) := by decide +kernel
theorem dX12_child_1 : decode cX12_child 1 = .ok (.iconst 0, 1) := by decide +kernel
theorem dX12_child_2 : decode cX12_child 2 = .ok (.putfield 136, 3) := by decide +kernel
theorem dX12_child_5 : decode cX12_child 5 = .ok (.aload_n 0, 1) := by decide +kernel
theorem dX12_child_6 : decode cX12_child 6 = .ok (.iload_n 1, 1) := by decide +kernel
theorem dX12_child_7 : decode cX12_child 7 = .ok (.invokevirtual 402, 3) := by decide +kernel
theorem dX12_child_10 : decode cX12_child 10 = .ok (.ifCond .ne 5, 3) := by decide +kernel
theorem dX12_child_13 : decode cX12_child 13 = .ok (.iconst (-1), 1) := by decide +kernel
theorem dX12_child_14 : decode cX12_child 14 = .ok (.ireturn, 1) := by decide +kernel
theorem dX12_child_15 : decode cX12_child 15 = .ok (.iload_n 2, 1) := by decide +kernel
theorem dX12_child_16 : decode cX12_child 16 = .ok (.ifCond .ne 12, 3) := by decide +kernel
theorem dX12_child_19 : decode cX12_child 19 = .ok (.aload_n 0, 1) := by decide +kernel
theorem dX12_child_20 : decode cX12_child 20 = .ok (.getfield 87, 3) := by decide +kernel
theorem dX12_child_23 : decode cX12_child 23 = .ok (.iload_n 1, 1) := by decide +kernel
theorem dX12_child_24 : decode cX12_child 24 = .ok (.iaload, 1) := by decide +kernel
theorem dX12_child_25 : decode cX12_child 25 = .ok (.goto 32, 3) := by decide +kernel
theorem dX12_child_28 : decode cX12_child 28 = .ok (.iload_n 2, 1) := by decide +kernel
theorem dX12_child_29 : decode cX12_child 29 = .ok (.iconst 1, 1) := by decide +kernel
theorem dX12_child_30 : decode cX12_child 30 = .ok (.if_icmp .ne 12, 3) := by decide +kernel
theorem dX12_child_33 : decode cX12_child 33 = .ok (.aload_n 0, 1) := by decide +kernel
theorem dX12_child_34 : decode cX12_child 34 = .ok (.getfield 34, 3) := by decide +kernel
theorem dX12_child_37 : decode cX12_child 37 = .ok (.iload_n 1, 1) := by decide +kernel
theorem dX12_child_38 : decode cX12_child 38 = .ok (.iaload, 1) := by decide +kernel
theorem dX12_child_39 : decode cX12_child 39 = .ok (.goto 18, 3) := by decide +kernel
theorem dX12_child_42 : decode cX12_child 42 = .ok (.iload_n 2, 1) := by decide +kernel
theorem dX12_child_43 : decode cX12_child 43 = .ok (.iconst 2, 1) := by decide +kernel
theorem dX12_child_44 : decode cX12_child 44 = .ok (.if_icmp .ne 12, 3) := by decide +kernel
theorem dX12_child_47 : decode cX12_child 47 = .ok (.aload_n 0, 1) := by decide +kernel
theorem dX12_child_48 : decode cX12_child 48 = .ok (.getfield 90, 3) := by decide +kernel
theorem dX12_child_51 : decode cX12_child 51 = .ok (.iload_n 1, 1) := by decide +kernel
theorem dX12_child_52 : decode cX12_child 52 = .ok (.iaload, 1) := by decide +kernel
theorem dX12_child_53 : decode cX12_child 53 = .ok (.goto 4, 3) := by decide +kernel
theorem dX12_child_56 : decode cX12_child 56 = .ok (.iconst (-1), 1) := by decide +kernel
theorem dX12_child_57 : decode cX12_child 57 = .ok (.ireturn, 1) := by decide +kernel
theorem dX12_cake_0 : decode cX12_cake 0 = .ok (.aload_n 0, 1) := by decide +kernel
theorem dX12_cake_1 : decode cX12_cake 1 = .ok (.iconst 0, 1) := by decide +kernel
theorem dX12_cake_2 : decode cX12_cake 2 = .ok (.putfield 136, 3) := by decide +kernel
theorem dX12_cake_5 : decode cX12_cake 5 = .ok (.aload_n 0, 1) := by decide +kernel
theorem dX12_cake_6 : decode cX12_cake 6 = .ok (.iload_n 1, 1) := by decide +kernel
theorem dX12_cake_7 : decode cX12_cake 7 = .ok (.invokevirtual 396, 3) := by decide +kernel
theorem dX12_cake_10 : decode cX12_cake 10 = .ok (.ifCond .eq 24, 3) := by decide +kernel
theorem dX12_cake_13 : decode cX12_cake 13 = .ok (.iload_n 2, 1) := by decide +kernel
theorem dX12_cake_14 : decode cX12_cake 14 = .ok (.invokestatic 405, 3) := by decide +kernel
theorem dX12_cake_17 : decode cX12_cake 17 = .ok (.ifCond .eq 17, 3) := by decide +kernel
theorem dX12_cake_20 : decode cX12_cake 20 = .ok (.aload_n 0, 1) := by decide +kernel
theorem dX12_cake_21 : decode cX12_cake 21 = .ok (.getfield 84, 3) := by decide +kernel
theorem dX12_cake_24 : decode cX12_cake 24 = .ok (.iconst 0, 1) := by decide +kernel
theorem dX12_cake_25 : decode cX12_cake 25 = .ok (.iload_n 1, 1) := by decide +kernel
theorem dX12_cake_26 : decode cX12_cake 26 = .ok (.iload_n 2, 1) := by decide +kernel
theorem dX12_cake_27 : decode cX12_cake 27 = .ok (.invokestatic 322, 3) := by decide +kernel
theorem dX12_cake_30 : decode cX12_cake 30 = .ok (.iaload, 1) := by decide +kernel
theorem dX12_cake_31 : decode cX12_cake 31 = .ok (.goto 4, 3) := by decide +kernel
theorem dX12_cake_34 : decode cX12_cake 34 = .ok (.iconst (-1), 1) := by decide +kernel
theorem dX12_cake_35 : decode cX12_cake 35 = .ok (.ireturn, 1) := by decide +kernel
theorem dX12_ownersOf_0 : decode cX12_ownersOf 0 = .ok (.iconst 0, 1) := by decide +kernel
theorem dX12_ownersOf_1 : decode cX12_ownersOf 1 = .ok (.istore_n 3, 1) := by decide +kernel
theorem dX12_ownersOf_2 : decode cX12_ownersOf 2 = .ok (.iconst 0, 1) := by decide +kernel
theorem dX12_ownersOf_3 : decode cX12_ownersOf 3 = .ok (.istore 4, 2) := by decide +kernel
theorem dX12_ownersOf_5 : decode cX12_ownersOf 5 = .ok (.iload 4, 2) := by decide +kernel
theorem dX12_ownersOf_7 : decode cX12_ownersOf 7 = .ok (.aload_n 0, 1) := by decide +kernel
theorem dX12_ownersOf_8 : decode cX12_ownersOf 8 = .ok (.getfield 13, 3) := by decide +kernel
theorem dX12_ownersOf_11 : decode cX12_ownersOf 11 = .ok (.iconst 1, 1) := by decide +kernel
theorem dX12_ownersOf_12 : decode cX12_ownersOf 12 = .ok (.iaload, 1) := by decide +kernel
theorem dX12_ownersOf_13 : decode cX12_ownersOf 13 = .ok (.if_icmp .ge 32, 3) := by decide +kernel
theorem dX12_ownersOf_16 : decode cX12_ownersOf 16 = .ok (.iload_n 3, 1) := by decide +kernel
theorem dX12_ownersOf_17 : decode cX12_ownersOf 17 = .ok (.aload_n 0, 1) := by decide +kernel
theorem dX12_ownersOf_18 : decode cX12_ownersOf 18 = .ok (.iconst 0, 1) := by decide +kernel
theorem dX12_ownersOf_19 : decode cX12_ownersOf 19 = .ok (.iload 4, 2) := by decide +kernel
theorem dX12_ownersOf_21 : decode cX12_ownersOf 21 = .ok (.iload_n 1, 1) := by decide +kernel
theorem dX12_ownersOf_22 : decode cX12_ownersOf 22 = .ok (.iload_n 2, 1) := by decide +kernel
theorem dX12_ownersOf_23 : decode cX12_ownersOf 23 = .ok (.invokevirtual 408, 3) := by decide +kernel
theorem dX12_ownersOf_26 : decode cX12_ownersOf 26 = .ok (.ifCond .eq 10, 3) := by decide +kernel
theorem dX12_ownersOf_29 : decode cX12_ownersOf 29 = .ok (.iconst 1, 1) := by decide +kernel
theorem dX12_ownersOf_30 : decode cX12_ownersOf 30 = .ok (.iload 4, 2) := by decide +kernel
theorem dX12_ownersOf_32 : decode cX12_ownersOf 32 = .ok (.ishl, 1) := by decide +kernel
theorem dX12_ownersOf_33 : decode cX12_ownersOf 33 = .ok (.goto 4, 3) := by decide +kernel
theorem dX12_ownersOf_36 : decode cX12_ownersOf 36 = .ok (.iconst 0, 1) := by decide +kernel
theorem dX12_ownersOf_37 : decode cX12_ownersOf 37 = .ok (.ior, 1) := by decide +kernel
theorem dX12_ownersOf_38 : decode cX12_ownersOf 38 = .ok (.istore_n 3, 1) := by decide +kernel
theorem dX12_ownersOf_39 : decode cX12_ownersOf 39 = .ok (.iinc 4 1, 3) := by decide +kernel
theorem dX12_ownersOf_42 : decode cX12_ownersOf 42 = .ok (.goto (-37), 3) := by decide +kernel
theorem dX12_ownersOf_45 : decode cX12_ownersOf 45 = .ok (.iload_n 3, 1) := by decide +kernel
theorem dX12_ownersOf_46 : decode cX12_ownersOf 46 = .ok (.ireturn, 1) := by decide +kernel
theorem dX12_owners_0 : decode cX12_owners 0 = .ok (.aload_n 0, 1) := by decide +kernel
theorem dX12_owners_1 : decode cX12_owners 1 = .ok (.iconst 0, 1) := by decide +kernel
theorem dX12_owners_2 : decode cX12_owners 2 = .ok (.putfield 136, 3) := by decide +kernel
theorem dX12_owners_5 : decode cX12_owners 5 = .ok (.aload_n 0, 1) := by decide +kernel
theorem dX12_owners_6 : decode cX12_owners 6 = .ok (.iload_n 1, 1) := by decide +kernel
theorem dX12_owners_7 : decode cX12_owners 7 = .ok (.iload_n 2, 1) := by decide +kernel
theorem dX12_owners_8 : decode cX12_owners 8 = .ok (.invokevirtual 412, 3) := by decide +kernel
theorem dX12_owners_11 : decode cX12_owners 11 = .ok (.ifCond .eq 12, 3) := by decide +kernel
theorem dX12_owners_14 : decode cX12_owners 14 = .ok (.aload_n 0, 1) := by decide +kernel
theorem dX12_owners_15 : decode cX12_owners 15 = .ok (.iload_n 1, 1) := by decide +kernel
theorem dX12_owners_16 : decode cX12_owners 16 = .ok (.iload_n 2, 1) := by decide +kernel
theorem dX12_owners_17 : decode cX12_owners 17 = .ok (.invokevirtual 415, 3) := by decide +kernel
theorem dX12_owners_20 : decode cX12_owners 20 = .ok (.goto 4, 3) := by decide +kernel
theorem dX12_owners_23 : decode cX12_owners 23 = .ok (.iconst (-1), 1) := by decide +kernel
theorem dX12_owners_24 : decode cX12_owners 24 = .ok (.ireturn, 1) := by decide +kernel
theorem dX12_areTwo_0 : decode cX12_areTwo 0 = .ok (.aload_n 0, 1) := by decide +kernel
theorem dX12_areTwo_1 : decode cX12_areTwo 1 = .ok (.iload_n 1, 1) := by decide +kernel
theorem dX12_areTwo_2 : decode cX12_areTwo 2 = .ok (.invokevirtual 396, 3) := by decide +kernel
theorem dX12_areTwo_5 : decode cX12_areTwo 5 = .ok (.ifCond .eq 20, 3) := by decide +kernel
theorem dX12_areTwo_8 : decode cX12_areTwo 8 = .ok (.aload_n 0, 1) := by decide +kernel
theorem dX12_areTwo_9 : decode cX12_areTwo 9 = .ok (.iload_n 2, 1) := by decide +kernel
theorem dX12_areTwo_10 : decode cX12_areTwo 10 = .ok (.invokevirtual 396, 3) := by decide +kernel
theorem dX12_areTwo_13 : decode cX12_areTwo 13 = .ok (.ifCond .eq 12, 3) := by decide +kernel
theorem dX12_areTwo_16 : decode cX12_areTwo 16 = .ok (.iload_n 1, 1) := by decide +kernel
theorem dX12_areTwo_17 : decode cX12_areTwo 17 = .ok (.iload_n 2, 1) := by decide +kernel
theorem dX12_areTwo_18 : decode cX12_areTwo 18 = .ok (.if_icmp .eq 7, 3) := by decide +kernel
theorem dX12_areTwo_21 : decode cX12_areTwo 21 = .ok (.iconst 1, 1) := by decide +kernel
theorem dX12_areTwo_22 : decode cX12_areTwo 22 = .ok (.goto 4, 3) := by decide +kernel
theorem dX12_areTwo_25 : decode cX12_areTwo 25 = .ok (.iconst 0, 1) := by decide +kernel
theorem dX12_areTwo_26 : decode cX12_areTwo 26 = .ok (.ireturn, 1) := by decide +kernel
theorem dX12_overlap_0 : decode cX12_overlap 0 = .ok (.aload_n 0, 1) := by decide +kernel
theorem dX12_overlap_1 : decode cX12_overlap 1 = .ok (.iconst 0, 1) := by decide +kernel
theorem dX12_overlap_2 : decode cX12_overlap 2 = .ok (.putfield 136, 3) := by decide +kernel
theorem dX12_overlap_5 : decode cX12_overlap 5 = .ok (.aload_n 0, 1) := by decide +kernel
theorem dX12_overlap_6 : decode cX12_overlap 6 = .ok (.iload_n 1, 1) := by decide +kernel
theorem dX12_overlap_7 : decode cX12_overlap 7 = .ok (.iload_n 2, 1) := by decide +kernel
theorem dX12_overlap_8 : decode cX12_overlap 8 = .ok (.invokevirtual 418, 3) := by decide +kernel
theorem dX12_overlap_11 : decode cX12_overlap 11 = .ok (.ifCond .eq 13, 3) := by decide +kernel
theorem dX12_overlap_14 : decode cX12_overlap 14 = .ok (.aload_n 0, 1) := by decide +kernel
theorem dX12_overlap_15 : decode cX12_overlap 15 = .ok (.iconst 0, 1) := by decide +kernel
theorem dX12_overlap_16 : decode cX12_overlap 16 = .ok (.iload_n 1, 1) := by decide +kernel
theorem dX12_overlap_17 : decode cX12_overlap 17 = .ok (.iload_n 2, 1) := by decide +kernel
theorem dX12_overlap_18 : decode cX12_overlap 18 = .ok (.invokevirtual 342, 3) := by decide +kernel
theorem dX12_overlap_21 : decode cX12_overlap 21 = .ok (.goto 4, 3) := by decide +kernel
theorem dX12_overlap_24 : decode cX12_overlap 24 = .ok (.iconst (-1), 1) := by decide +kernel
theorem dX12_overlap_25 : decode cX12_overlap 25 = .ok (.ireturn, 1) := by decide +kernel
theorem dX12_bitsOf_0 : decode cX12_bitsOf 0 = .ok (.iconst 0, 1) := by decide +kernel
theorem dX12_bitsOf_1 : decode cX12_bitsOf 1 = .ok (.istore_n 1, 1) := by decide +kernel
theorem dX12_bitsOf_2 : decode cX12_bitsOf 2 = .ok (.iconst 0, 1) := by decide +kernel
theorem dX12_bitsOf_3 : decode cX12_bitsOf 3 = .ok (.istore_n 2, 1) := by decide +kernel
theorem dX12_bitsOf_4 : decode cX12_bitsOf 4 = .ok (.iload_n 2, 1) := by decide +kernel
theorem dX12_bitsOf_5 : decode cX12_bitsOf 5 = .ok (.bipush 30, 2) := by decide +kernel
theorem dX12_bitsOf_7 : decode cX12_bitsOf 7 = .ok (.if_icmp .ge 17, 3) := by decide +kernel
theorem dX12_bitsOf_10 : decode cX12_bitsOf 10 = .ok (.iload_n 1, 1) := by decide +kernel
theorem dX12_bitsOf_11 : decode cX12_bitsOf 11 = .ok (.iload_n 0, 1) := by decide +kernel
theorem dX12_bitsOf_12 : decode cX12_bitsOf 12 = .ok (.iload_n 2, 1) := by decide +kernel
theorem dX12_bitsOf_13 : decode cX12_bitsOf 13 = .ok (.ishr, 1) := by decide +kernel
theorem dX12_bitsOf_14 : decode cX12_bitsOf 14 = .ok (.iconst 1, 1) := by decide +kernel
theorem dX12_bitsOf_15 : decode cX12_bitsOf 15 = .ok (.iand, 1) := by decide +kernel
theorem dX12_bitsOf_16 : decode cX12_bitsOf 16 = .ok (.iadd, 1) := by decide +kernel
theorem dX12_bitsOf_17 : decode cX12_bitsOf 17 = .ok (.istore_n 1, 1) := by decide +kernel
theorem dX12_bitsOf_18 : decode cX12_bitsOf 18 = .ok (.iinc 2 1, 3) := by decide +kernel
theorem dX12_bitsOf_21 : decode cX12_bitsOf 21 = .ok (.goto (-17), 3) := by decide +kernel
theorem dX12_bitsOf_24 : decode cX12_bitsOf 24 = .ok (.iload_n 1, 1) := by decide +kernel
theorem dX12_bitsOf_25 : decode cX12_bitsOf 25 = .ok (.ireturn, 1) := by decide +kernel
theorem dX12_cellsOf_0 : decode cX12_cellsOf 0 = .ok (.iconst 0, 1) := by decide +kernel
theorem dX12_cellsOf_1 : decode cX12_cellsOf 1 = .ok (.istore_n 2, 1) := by decide +kernel
theorem dX12_cellsOf_2 : decode cX12_cellsOf 2 = .ok (.iconst 0, 1) := by decide +kernel
theorem dX12_cellsOf_3 : decode cX12_cellsOf 3 = .ok (.istore_n 3, 1) := by decide +kernel
theorem dX12_cellsOf_4 : decode cX12_cellsOf 4 = .ok (.iload_n 3, 1) := by decide +kernel
theorem dX12_cellsOf_5 : decode cX12_cellsOf 5 = .ok (.aload_n 0, 1) := by decide +kernel
theorem dX12_cellsOf_6 : decode cX12_cellsOf 6 = .ok (.getfield 13, 3) := by decide +kernel
theorem dX12_cellsOf_9 : decode cX12_cellsOf 9 = .ok (.iconst 0, 1) := by decide +kernel
theorem dX12_cellsOf_10 : decode cX12_cellsOf 10 = .ok (.iaload, 1) := by decide +kernel
theorem dX12_cellsOf_11 : decode cX12_cellsOf 11 = .ok (.if_icmp .ge 51, 3) := by decide +kernel
theorem dX12_cellsOf_14 : decode cX12_cellsOf 14 = .ok (.iconst 0, 1) := by decide +kernel
theorem dX12_cellsOf_15 : decode cX12_cellsOf 15 = .ok (.istore 4, 2) := by decide +kernel
theorem dX12_cellsOf_17 : decode cX12_cellsOf 17 = .ok (.iload 4, 2) := by decide +kernel
theorem dX12_cellsOf_19 : decode cX12_cellsOf 19 = .ok (.aload_n 0, 1) := by decide +kernel
theorem dX12_cellsOf_20 : decode cX12_cellsOf 20 = .ok (.getfield 13, 3) := by decide +kernel
theorem dX12_cellsOf_23 : decode cX12_cellsOf 23 = .ok (.iconst 0, 1) := by decide +kernel
theorem dX12_cellsOf_24 : decode cX12_cellsOf 24 = .ok (.iaload, 1) := by decide +kernel
theorem dX12_cellsOf_25 : decode cX12_cellsOf 25 = .ok (.if_icmp .ge 31, 3) := by decide +kernel
theorem dX12_cellsOf_28 : decode cX12_cellsOf 28 = .ok (.iload_n 2, 1) := by decide +kernel
theorem dX12_cellsOf_29 : decode cX12_cellsOf 29 = .ok (.aload_n 0, 1) := by decide +kernel
theorem dX12_cellsOf_30 : decode cX12_cellsOf 30 = .ok (.iload_n 3, 1) := by decide +kernel
theorem dX12_cellsOf_31 : decode cX12_cellsOf 31 = .ok (.iload 4, 2) := by decide +kernel
theorem dX12_cellsOf_33 : decode cX12_cellsOf 33 = .ok (.invokevirtual 415, 3) := by decide +kernel
theorem dX12_cellsOf_36 : decode cX12_cellsOf 36 = .ok (.invokestatic 421, 3) := by decide +kernel
theorem dX12_cellsOf_39 : decode cX12_cellsOf 39 = .ok (.iload_n 1, 1) := by decide +kernel
theorem dX12_cellsOf_40 : decode cX12_cellsOf 40 = .ok (.if_icmp .lt 7, 3) := by decide +kernel
theorem dX12_cellsOf_43 : decode cX12_cellsOf 43 = .ok (.iconst 1, 1) := by decide +kernel
theorem dX12_cellsOf_44 : decode cX12_cellsOf 44 = .ok (.goto 4, 3) := by decide +kernel
theorem dX12_cellsOf_47 : decode cX12_cellsOf 47 = .ok (.iconst 0, 1) := by decide +kernel
theorem dX12_cellsOf_48 : decode cX12_cellsOf 48 = .ok (.iadd, 1) := by decide +kernel
theorem dX12_cellsOf_49 : decode cX12_cellsOf 49 = .ok (.istore_n 2, 1) := by decide +kernel
theorem dX12_cellsOf_50 : decode cX12_cellsOf 50 = .ok (.iinc 4 1, 3) := by decide +kernel
theorem dX12_cellsOf_53 : decode cX12_cellsOf 53 = .ok (.goto (-36), 3) := by decide +kernel
theorem dX12_cellsOf_56 : decode cX12_cellsOf 56 = .ok (.iinc 3 1, 3) := by decide +kernel
theorem dX12_cellsOf_59 : decode cX12_cellsOf 59 = .ok (.goto (-55), 3) := by decide +kernel
theorem dX12_cellsOf_62 : decode cX12_cellsOf 62 = .ok (.iload_n 2, 1) := by decide +kernel
theorem dX12_cellsOf_63 : decode cX12_cellsOf 63 = .ok (.ireturn, 1) := by decide +kernel
theorem dX12_taken_0 : decode cX12_taken 0 = .ok (.aload_n 0, 1) := by decide +kernel
theorem dX12_taken_1 : decode cX12_taken 1 = .ok (.iconst 0, 1) := by decide +kernel
theorem dX12_taken_2 : decode cX12_taken 2 = .ok (.putfield 136, 3) := by decide +kernel
theorem dX12_taken_5 : decode cX12_taken 5 = .ok (.aload_n 0, 1) := by decide +kernel
theorem dX12_taken_6 : decode cX12_taken 6 = .ok (.iconst 1, 1) := by decide +kernel
theorem dX12_taken_7 : decode cX12_taken 7 = .ok (.invokevirtual 424, 3) := by decide +kernel
theorem dX12_taken_10 : decode cX12_taken 10 = .ok (.ireturn, 1) := by decide +kernel
theorem dX12_disputed_0 : decode cX12_disputed 0 = .ok (.aload_n 0, 1) := by decide +kernel
theorem dX12_disputed_1 : decode cX12_disputed 1 = .ok (.iconst 0, 1) := by decide +kernel
theorem dX12_disputed_2 : decode cX12_disputed 2 = .ok (.putfield 136, 3) := by decide +kernel
theorem dX12_disputed_5 : decode cX12_disputed 5 = .ok (.aload_n 0, 1) := by decide +kernel
theorem dX12_disputed_6 : decode cX12_disputed 6 = .ok (.iconst 2, 1) := by decide +kernel
theorem dX12_disputed_7 : decode cX12_disputed 7 = .ok (.invokevirtual 424, 3) := by decide +kernel
theorem dX12_disputed_10 : decode cX12_disputed 10 = .ok (.ireturn, 1) := by decide +kernel
theorem dX12_law_0 : decode cX12_law 0 = .ok (.aload_n 0, 1) := by decide +kernel
theorem dX12_law_1 : decode cX12_law 1 = .ok (.iconst 0, 1) := by decide +kernel
theorem dX12_law_2 : decode cX12_law 2 = .ok (.putfield 136, 3) := by decide +kernel
theorem dX12_law_5 : decode cX12_law 5 = .ok (.iload_n 1, 1) := by decide +kernel
theorem dX12_law_6 : decode cX12_law 6 = .ok (.ifCond .lt 16, 3) := by decide +kernel
theorem dX12_law_9 : decode cX12_law 9 = .ok (.iload_n 1, 1) := by decide +kernel
theorem dX12_law_10 : decode cX12_law 10 = .ok (.iconst 2, 1) := by decide +kernel
theorem dX12_law_11 : decode cX12_law 11 = .ok (.if_icmp .gt 11, 3) := by decide +kernel
theorem dX12_law_14 : decode cX12_law 14 = .ok (.aload_n 0, 1) := by decide +kernel
theorem dX12_law_15 : decode cX12_law 15 = .ok (.iload_n 1, 1) := by decide +kernel
theorem dX12_law_16 : decode cX12_law 16 = .ok (.invokevirtual 349, 3) := by decide +kernel
theorem dX12_law_19 : decode cX12_law 19 = .ok (.ifCond .ne 7, 3) := by decide +kernel
theorem dX12_law_22 : decode cX12_law 22 = .ok (.ldc2_w 429, 3) := by decide +kernel
theorem dX12_law_25 : decode cX12_law 25 = .ok (.lreturn, 1) := by decide +kernel
theorem dX12_law_26 : decode cX12_law 26 = .ok (.aload_n 0, 1) := by decide +kernel
theorem dX12_law_27 : decode cX12_law 27 = .ok (.iconst 0, 1) := by decide +kernel
theorem dX12_law_28 : decode cX12_law 28 = .ok (.iconst 0, 1) := by decide +kernel
theorem dX12_law_29 : decode cX12_law 29 = .ok (.invokevirtual 384, 3) := by decide +kernel
theorem dX12_law_32 : decode cX12_law 32 = .ok (.istore 5, 2) := by decide +kernel
theorem dX12_law_34 : decode cX12_law 34 = .ok (.iload_n 1, 1) := by decide +kernel
theorem dX12_law_35 : decode cX12_law 35 = .ok (.ifCond .ne 66, 3) := by decide +kernel
theorem dX12_law_38 : decode cX12_law 38 = .ok (.aload_n 0, 1) := by decide +kernel
theorem dX12_law_39 : decode cX12_law 39 = .ok (.iload_n 2, 1) := by decide +kernel
theorem dX12_law_40 : decode cX12_law 40 = .ok (.invokevirtual 402, 3) := by decide +kernel
theorem dX12_law_43 : decode cX12_law 43 = .ok (.ifCond .eq 19, 3) := by decide +kernel
theorem dX12_law_46 : decode cX12_law 46 = .ok (.aload_n 0, 1) := by decide +kernel
theorem dX12_law_47 : decode cX12_law 47 = .ok (.iload_n 3, 1) := by decide +kernel
theorem dX12_law_48 : decode cX12_law 48 = .ok (.invokevirtual 396, 3) := by decide +kernel
theorem dX12_law_51 : decode cX12_law 51 = .ok (.ifCond .eq 11, 3) := by decide +kernel
theorem dX12_law_54 : decode cX12_law 54 = .ok (.iload 4, 2) := by decide +kernel
theorem dX12_law_56 : decode cX12_law 56 = .ok (.invokestatic 405, 3) := by decide +kernel
theorem dX12_law_59 : decode cX12_law 59 = .ok (.ifCond .ne 7, 3) := by decide +kernel
theorem dX12_law_62 : decode cX12_law 62 = .ok (.ldc2_w 429, 3) := by decide +kernel
theorem dX12_law_65 : decode cX12_law 65 = .ok (.lreturn, 1) := by decide +kernel
theorem dX12_law_66 : decode cX12_law 66 = .ok (.aload_n 0, 1) := by decide +kernel
theorem dX12_law_67 : decode cX12_law 67 = .ok (.iconst 0, 1) := by decide +kernel
theorem dX12_law_68 : decode cX12_law 68 = .ok (.iload_n 2, 1) := by decide +kernel
theorem dX12_law_69 : decode cX12_law 69 = .ok (.aload_n 0, 1) := by decide +kernel
theorem dX12_law_70 : decode cX12_law 70 = .ok (.getfield 84, 3) := by decide +kernel
theorem dX12_law_73 : decode cX12_law 73 = .ok (.iconst 0, 1) := by decide +kernel
theorem dX12_law_74 : decode cX12_law 74 = .ok (.iload_n 3, 1) := by decide +kernel
theorem dX12_law_75 : decode cX12_law 75 = .ok (.iload 4, 2) := by decide +kernel
theorem dX12_law_77 : decode cX12_law 77 = .ok (.invokestatic 322, 3) := by decide +kernel
theorem dX12_law_80 : decode cX12_law 80 = .ok (.iaload, 1) := by decide +kernel
theorem dX12_law_81 : decode cX12_law 81 = .ok (.iload 5, 2) := by decide +kernel
theorem dX12_law_83 : decode cX12_law 83 = .ok (.aload_n 0, 1) := by decide +kernel
theorem dX12_law_84 : decode cX12_law 84 = .ok (.getfield 81, 3) := by decide +kernel
theorem dX12_law_87 : decode cX12_law 87 = .ok (.iconst 0, 1) := by decide +kernel
theorem dX12_law_88 : decode cX12_law 88 = .ok (.iload_n 3, 1) := by decide +kernel
theorem dX12_law_89 : decode cX12_law 89 = .ok (.iload 4, 2) := by decide +kernel
theorem dX12_law_91 : decode cX12_law 91 = .ok (.invokestatic 322, 3) := by decide +kernel
theorem dX12_law_94 : decode cX12_law 94 = .ok (.iaload, 1) := by decide +kernel
theorem dX12_law_95 : decode cX12_law 95 = .ok (.invokevirtual 360, 3) := by decide +kernel
theorem dX12_law_98 : decode cX12_law 98 = .ok (.goto 62, 3) := by decide +kernel
theorem dX12_law_101 : decode cX12_law 101 = .ok (.iload_n 1, 1) := by decide +kernel
theorem dX12_law_102 : decode cX12_law 102 = .ok (.iconst 1, 1) := by decide +kernel
theorem dX12_law_103 : decode cX12_law 103 = .ok (.if_icmp .ne 35, 3) := by decide +kernel
theorem dX12_law_106 : decode cX12_law 106 = .ok (.aload_n 0, 1) := by decide +kernel
theorem dX12_law_107 : decode cX12_law 107 = .ok (.iload_n 2, 1) := by decide +kernel
theorem dX12_law_108 : decode cX12_law 108 = .ok (.iload_n 3, 1) := by decide +kernel
theorem dX12_law_109 : decode cX12_law 109 = .ok (.invokevirtual 418, 3) := by decide +kernel
theorem dX12_law_112 : decode cX12_law 112 = .ok (.ifCond .ne 7, 3) := by decide +kernel
theorem dX12_law_115 : decode cX12_law 115 = .ok (.ldc2_w 429, 3) := by decide +kernel
theorem dX12_law_118 : decode cX12_law 118 = .ok (.lreturn, 1) := by decide +kernel
theorem dX12_law_119 : decode cX12_law 119 = .ok (.aload_n 0, 1) := by decide +kernel
theorem dX12_law_120 : decode cX12_law 120 = .ok (.iconst 0, 1) := by decide +kernel
theorem dX12_law_121 : decode cX12_law 121 = .ok (.iconst (-1), 1) := by decide +kernel
theorem dX12_law_122 : decode cX12_law 122 = .ok (.iconst 0, 1) := by decide +kernel
theorem dX12_law_123 : decode cX12_law 123 = .ok (.iload 5, 2) := by decide +kernel
theorem dX12_law_125 : decode cX12_law 125 = .ok (.aload_n 0, 1) := by decide +kernel
theorem dX12_law_126 : decode cX12_law 126 = .ok (.iconst 0, 1) := by decide +kernel
theorem dX12_law_127 : decode cX12_law 127 = .ok (.iload_n 2, 1) := by decide +kernel
theorem dX12_law_128 : decode cX12_law 128 = .ok (.iload_n 3, 1) := by decide +kernel
theorem dX12_law_129 : decode cX12_law 129 = .ok (.invokevirtual 342, 3) := by decide +kernel
theorem dX12_law_132 : decode cX12_law 132 = .ok (.invokevirtual 360, 3) := by decide +kernel
theorem dX12_law_135 : decode cX12_law 135 = .ok (.goto 25, 3) := by decide +kernel
theorem dX12_law_138 : decode cX12_law 138 = .ok (.aload_n 0, 1) := by decide +kernel
theorem dX12_law_139 : decode cX12_law 139 = .ok (.iload_n 2, 1) := by decide +kernel
theorem dX12_law_140 : decode cX12_law 140 = .ok (.invokevirtual 402, 3) := by decide +kernel
theorem dX12_law_143 : decode cX12_law 143 = .ok (.ifCond .ne 7, 3) := by decide +kernel
theorem dX12_law_146 : decode cX12_law 146 = .ok (.ldc2_w 429, 3) := by decide +kernel
theorem dX12_law_149 : decode cX12_law 149 = .ok (.lreturn, 1) := by decide +kernel
theorem dX12_law_150 : decode cX12_law 150 = .ok (.aload_n 0, 1) := by decide +kernel
theorem dX12_law_151 : decode cX12_law 151 = .ok (.iconst 0, 1) := by decide +kernel
theorem dX12_law_152 : decode cX12_law 152 = .ok (.iload_n 2, 1) := by decide +kernel
theorem dX12_law_153 : decode cX12_law 153 = .ok (.iconst 0, 1) := by decide +kernel
theorem dX12_law_154 : decode cX12_law 154 = .ok (.iload 5, 2) := by decide +kernel
theorem dX12_law_156 : decode cX12_law 156 = .ok (.iconst 0, 1) := by decide +kernel
theorem dX12_law_157 : decode cX12_law 157 = .ok (.invokevirtual 360, 3) := by decide +kernel
theorem dX12_law_160 : decode cX12_law 160 = .ok (.aload_n 0, 1) := by decide +kernel
theorem dX12_law_161 : decode cX12_law 161 = .ok (.iload_n 1, 1) := by decide +kernel
theorem dX12_law_162 : decode cX12_law 162 = .ok (.invokevirtual 352, 3) := by decide +kernel
theorem dX12_law_165 : decode cX12_law 165 = .ok (.ifCond .eq 12, 3) := by decide +kernel
theorem dX12_law_168 : decode cX12_law 168 = .ok (.aload_n 0, 1) := by decide +kernel
theorem dX12_law_169 : decode cX12_law 169 = .ok (.getfield 69, 3) := by decide +kernel
theorem dX12_law_172 : decode cX12_law 172 = .ok (.iconst 0, 1) := by decide +kernel
theorem dX12_law_173 : decode cX12_law 173 = .ok (.laload, 1) := by decide +kernel
theorem dX12_law_174 : decode cX12_law 174 = .ok (.goto 6, 3) := by decide +kernel
theorem dX12_law_177 : decode cX12_law 177 = .ok (.ldc2_w 429, 3) := by decide +kernel
theorem dX12_law_180 : decode cX12_law 180 = .ok (.lreturn, 1) := by decide +kernel
theorem dX12_keepNow_0 : decode cX12_keepNow 0 = .ok (.aload_n 0, 1) := by decide +kernel
theorem dX12_keepNow_1 : decode cX12_keepNow 1 = .ok (.getfield 296, 3) := by decide +kernel
theorem dX12_keepNow_4 : decode cX12_keepNow 4 = .ok (.bipush 20, 2) := by decide +kernel
theorem dX12_keepNow_6 : decode cX12_keepNow 6 = .ok (.if_icmp .ne 39, 3) := by decide +kernel
theorem dX12_keepNow_9 : decode cX12_keepNow 9 = .ok (.iconst 1, 1) := by decide +kernel
theorem dX12_keepNow_10 : decode cX12_keepNow 10 = .ok (.istore_n 1, 1) := by decide +kernel
theorem dX12_keepNow_11 : decode cX12_keepNow 11 = .ok (.iload_n 1, 1) := by decide +kernel
theorem dX12_keepNow_12 : decode cX12_keepNow 12 = .ok (.bipush 20, 2) := by decide +kernel
theorem dX12_keepNow_14 : decode cX12_keepNow 14 = .ok (.if_icmp .ge 21, 3) := by decide +kernel
theorem dX12_keepNow_17 : decode cX12_keepNow 17 = .ok (.aload_n 0, 1) := by decide +kernel
theorem dX12_keepNow_18 : decode cX12_keepNow 18 = .ok (.iconst 3, 1) := by decide +kernel
theorem dX12_keepNow_19 : decode cX12_keepNow 19 = .ok (.iload_n 1, 1) := by decide +kernel
theorem dX12_keepNow_20 : decode cX12_keepNow 20 = .ok (.iadd, 1) := by decide +kernel
theorem dX12_keepNow_21 : decode cX12_keepNow 21 = .ok (.iconst 1, 1) := by decide +kernel
theorem dX12_keepNow_22 : decode cX12_keepNow 22 = .ok (.isub, 1) := by decide +kernel
theorem dX12_keepNow_23 : decode cX12_keepNow 23 = .ok (.iconst 3, 1) := by decide +kernel
theorem dX12_keepNow_24 : decode cX12_keepNow 24 = .ok (.iload_n 1, 1) := by decide +kernel
theorem dX12_keepNow_25 : decode cX12_keepNow 25 = .ok (.iadd, 1) := by decide +kernel
theorem dX12_keepNow_26 : decode cX12_keepNow 26 = .ok (.invokevirtual 431, 3) := by decide +kernel
theorem dX12_keepNow_29 : decode cX12_keepNow 29 = .ok (.iinc 1 1, 3) := by decide +kernel
theorem dX12_keepNow_32 : decode cX12_keepNow 32 = .ok (.goto (-21), 3) := by decide +kernel
theorem dX12_keepNow_35 : decode cX12_keepNow 35 = .ok (.aload_n 0, 1) := by decide +kernel
theorem dX12_keepNow_36 : decode cX12_keepNow 36 = .ok (.dup, 1) := by decide +kernel
theorem dX12_keepNow_37 : decode cX12_keepNow 37 = .ok (.getfield 296, 3) := by decide +kernel
theorem dX12_keepNow_40 : decode cX12_keepNow 40 = .ok (.iconst 1, 1) := by decide +kernel
theorem dX12_keepNow_41 : decode cX12_keepNow 41 = .ok (.isub, 1) := by decide +kernel
theorem dX12_keepNow_42 : decode cX12_keepNow 42 = .ok (.putfield 296, 3) := by decide +kernel
theorem dX12_keepNow_45 : decode cX12_keepNow 45 = .ok (.aload_n 0, 1) := by decide +kernel
theorem dX12_keepNow_46 : decode cX12_keepNow 46 = .ok (.iconst 3, 1) := by decide +kernel
theorem dX12_keepNow_47 : decode cX12_keepNow 47 = .ok (.aload_n 0, 1) := by decide +kernel
theorem dX12_keepNow_48 : decode cX12_keepNow 48 = .ok (.getfield 296, 3) := by decide +kernel
theorem dX12_keepNow_51 : decode cX12_keepNow 51 = .ok (.iadd, 1) := by decide +kernel
theorem dX12_keepNow_52 : decode cX12_keepNow 52 = .ok (.iconst 0, 1) := by decide +kernel
theorem dX12_keepNow_53 : decode cX12_keepNow 53 = .ok (.invokevirtual 431, 3) := by decide +kernel
theorem dX12_keepNow_56 : decode cX12_keepNow 56 = .ok (.aload_n 0, 1) := by decide +kernel
theorem dX12_keepNow_57 : decode cX12_keepNow 57 = .ok (.dup, 1) := by decide +kernel
theorem dX12_keepNow_58 : decode cX12_keepNow 58 = .ok (.getfield 296, 3) := by decide +kernel
theorem dX12_keepNow_61 : decode cX12_keepNow 61 = .ok (.iconst 1, 1) := by decide +kernel
theorem dX12_keepNow_62 : decode cX12_keepNow 62 = .ok (.iadd, 1) := by decide +kernel
theorem dX12_keepNow_63 : decode cX12_keepNow 63 = .ok (.putfield 296, 3) := by decide +kernel
theorem dX12_keepNow_66 : decode cX12_keepNow 66 = .ok (.return_, 1) := by decide +kernel
