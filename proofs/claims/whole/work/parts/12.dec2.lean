theorem dX1_op_0 : decode cX1_op 0 = .ok (.aload_n 0, 1) := by decide +kernel
theorem dX1_op_1 : decode cX1_op 1 = .ok (.iload_n 1, 1) := by decide +kernel
theorem dX1_op_2 : decode cX1_op 2 = .ok (.ifCond .lt 9, 3) := by decide +kernel
theorem dX1_op_5 : decode cX1_op 5 = .ok (.iload_n 1, 1) := by decide +kernel
theorem dX1_op_6 : decode cX1_op 6 = .ok (.bipush 12, 2) := by decide +kernel
theorem dX1_op_8 : decode cX1_op 8 = .ok (.if_icmp .le 7, 3) := by decide +kernel
theorem dX1_op_11 : decode cX1_op 11 = .ok (.iconst 1, 1) := by decide +kernel
theorem dX1_op_12 : decode cX1_op 12 = .ok (.goto 4, 3) := by decide +kernel
theorem dX1_op_15 : decode cX1_op 15 = .ok (.iconst 0, 1) := by decide +kernel
theorem dX1_op_16 : decode cX1_op 16 = .ok (.iconst 1, 1) := by decide +kernel
theorem dX1_op_17 : decode cX1_op 17 = .ok (.invokevirtual 36, 3) := by decide +kernel
theorem dX1_op_20 : decode cX1_op 20 = .ok (.ifCond .eq 4, 3) := by decide +kernel
theorem dX1_op_23 : decode cX1_op 23 = .ok (.return_, 1) := by decide +kernel
theorem dX1_op_24 : decode cX1_op 24 = .ok (.aload_n 0, 1) := by decide +kernel
theorem dX1_op_25 : decode cX1_op 25 = .ok (.iload_n 2, 1) := by decide +kernel
theorem dX1_op_26 : decode cX1_op 26 = .ok (.invokestatic 32, 3) := by decide +kernel
theorem dX1_op_29 : decode cX1_op 29 = .ok (.ifCond .ne 18, 3) := by decide +kernel
theorem dX1_op_32 : decode cX1_op 32 = .ok (.iload_n 3, 1) := by decide +kernel
theorem dX1_op_33 : decode cX1_op 33 = .ok (.invokestatic 32, 3) := by decide +kernel
theorem dX1_op_36 : decode cX1_op 36 = .ok (.ifCond .ne 11, 3) := by decide +kernel
theorem dX1_op_39 : decode cX1_op 39 = .ok (.iload 4, 2) := by decide +kernel
theorem dX1_op_41 : decode cX1_op 41 = .ok (.invokestatic 32, 3) := by decide +kernel
theorem dX1_op_44 : decode cX1_op 44 = .ok (.ifCond .eq 7, 3) := by decide +kernel
theorem dX1_op_47 : decode cX1_op 47 = .ok (.iconst 1, 1) := by decide +kernel
theorem dX1_op_48 : decode cX1_op 48 = .ok (.goto 4, 3) := by decide +kernel
theorem dX1_op_51 : decode cX1_op 51 = .ok (.iconst 0, 1) := by decide +kernel
theorem dX1_op_52 : decode cX1_op 52 = .ok (.iconst 2, 1) := by decide +kernel
theorem dX1_op_53 : decode cX1_op 53 = .ok (.invokevirtual 36, 3) := by decide +kernel
theorem dX1_op_56 : decode cX1_op 56 = .ok (.ifCond .eq 4, 3) := by decide +kernel
theorem dX1_op_59 : decode cX1_op 59 = .ok (.return_, 1) := by decide +kernel
theorem dX1_op_60 : decode cX1_op 60 = .ok (.aload_n 0, 1) := by decide +kernel
theorem dX1_op_61 : decode cX1_op 61 = .ok (.iload_n 3, 1) := by decide +kernel
theorem dX1_op_62 : decode cX1_op 62 = .ok (.invokevirtual 54, 3) := by decide +kernel
theorem dX1_op_65 : decode cX1_op 65 = .ok (.istore 5, 2) := by decide +kernel
theorem dX1_op_67 : decode cX1_op 67 = .ok (.aload_n 0, 1) := by decide +kernel
theorem dX1_op_68 : decode cX1_op 68 = .ok (.iload 4, 2) := by decide +kernel
theorem dX1_op_70 : decode cX1_op 70 = .ok (.invokevirtual 54, 3) := by decide +kernel
theorem dX1_op_73 : decode cX1_op 73 = .ok (.istore 6, 2) := by decide +kernel
theorem dX1_op_75 : decode cX1_op 75 = .ok (.aload_n 0, 1) := by decide +kernel
theorem dX1_op_76 : decode cX1_op 76 = .ok (.iload_n 3, 1) := by decide +kernel
theorem dX1_op_77 : decode cX1_op 77 = .ok (.invokevirtual 58, 3) := by decide +kernel
theorem dX1_op_80 : decode cX1_op 80 = .ok (.aload_n 0, 1) := by decide +kernel
theorem dX1_op_81 : decode cX1_op 81 = .ok (.iload 4, 2) := by decide +kernel
theorem dX1_op_83 : decode cX1_op 83 = .ok (.invokevirtual 58, 3) := by decide +kernel
theorem dX1_op_86 : decode cX1_op 86 = .ok (.if_icmp .ge 11, 3) := by decide +kernel
theorem dX1_op_89 : decode cX1_op 89 = .ok (.aload_n 0, 1) := by decide +kernel
theorem dX1_op_90 : decode cX1_op 90 = .ok (.iload_n 3, 1) := by decide +kernel
theorem dX1_op_91 : decode cX1_op 91 = .ok (.invokevirtual 58, 3) := by decide +kernel
theorem dX1_op_94 : decode cX1_op 94 = .ok (.goto 9, 3) := by decide +kernel
theorem dX1_op_97 : decode cX1_op 97 = .ok (.aload_n 0, 1) := by decide +kernel
theorem dX1_op_98 : decode cX1_op 98 = .ok (.iload 4, 2) := by decide +kernel
theorem dX1_op_100 : decode cX1_op 100 = .ok (.invokevirtual 58, 3) := by decide +kernel
theorem dX1_op_103 : decode cX1_op 103 = .ok (.istore 7, 2) := by decide +kernel
theorem dX1_op_105 : decode cX1_op 105 = .ok (.iload_n 1, 1) := by decide +kernel
theorem dX1_op_106 : decode cX1_op 106 = .ok (.tableswitch 664 0 11 #[62, 80, 98, 98, 98, 281, 281, 281, 297, 407, 475, 554], 62) := by decide +kernel
theorem dX1_op_168 : decode cX1_op 168 = .ok (.aload_n 0, 1) := by decide +kernel
theorem dX1_op_169 : decode cX1_op 169 = .ok (.iload 5, 2) := by decide +kernel
theorem dX1_op_171 : decode cX1_op 171 = .ok (.iload 6, 2) := by decide +kernel
theorem dX1_op_173 : decode cX1_op 173 = .ok (.iadd, 1) := by decide +kernel
theorem dX1_op_174 : decode cX1_op 174 = .ok (.invokevirtual 40, 3) := by decide +kernel
theorem dX1_op_177 : decode cX1_op 177 = .ok (.aload_n 0, 1) := by decide +kernel
theorem dX1_op_178 : decode cX1_op 178 = .ok (.iload 7, 2) := by decide +kernel
theorem dX1_op_180 : decode cX1_op 180 = .ok (.invokevirtual 61, 3) := by decide +kernel
theorem dX1_op_183 : decode cX1_op 183 = .ok (.goto 595, 3) := by decide +kernel
theorem dX1_op_186 : decode cX1_op 186 = .ok (.aload_n 0, 1) := by decide +kernel
theorem dX1_op_187 : decode cX1_op 187 = .ok (.iload 5, 2) := by decide +kernel
theorem dX1_op_189 : decode cX1_op 189 = .ok (.iload 6, 2) := by decide +kernel
theorem dX1_op_191 : decode cX1_op 191 = .ok (.isub, 1) := by decide +kernel
theorem dX1_op_192 : decode cX1_op 192 = .ok (.invokevirtual 40, 3) := by decide +kernel
theorem dX1_op_195 : decode cX1_op 195 = .ok (.aload_n 0, 1) := by decide +kernel
theorem dX1_op_196 : decode cX1_op 196 = .ok (.iload 7, 2) := by decide +kernel
theorem dX1_op_198 : decode cX1_op 198 = .ok (.invokevirtual 61, 3) := by decide +kernel
theorem dX1_op_201 : decode cX1_op 201 = .ok (.goto 577, 3) := by decide +kernel
theorem dX1_op_204 : decode cX1_op 204 = .ok (.aload_n 0, 1) := by decide +kernel
theorem dX1_op_205 : decode cX1_op 205 = .ok (.iload_n 1, 1) := by decide +kernel
theorem dX1_op_206 : decode cX1_op 206 = .ok (.iconst 2, 1) := by decide +kernel
theorem dX1_op_207 : decode cX1_op 207 = .ok (.if_icmp .ne 11, 3) := by decide +kernel
theorem dX1_op_210 : decode cX1_op 210 = .ok (.iload 5, 2) := by decide +kernel
theorem dX1_op_212 : decode cX1_op 212 = .ok (.iload 6, 2) := by decide +kernel
theorem dX1_op_214 : decode cX1_op 214 = .ok (.iand, 1) := by decide +kernel
theorem dX1_op_215 : decode cX1_op 215 = .ok (.goto 21, 3) := by decide +kernel
theorem dX1_op_218 : decode cX1_op 218 = .ok (.iload_n 1, 1) := by decide +kernel
theorem dX1_op_219 : decode cX1_op 219 = .ok (.iconst 3, 1) := by decide +kernel
theorem dX1_op_220 : decode cX1_op 220 = .ok (.if_icmp .ne 11, 3) := by decide +kernel
theorem dX1_op_223 : decode cX1_op 223 = .ok (.iload 5, 2) := by decide +kernel
theorem dX1_op_225 : decode cX1_op 225 = .ok (.iload 6, 2) := by decide +kernel
theorem dX1_op_227 : decode cX1_op 227 = .ok (.ior, 1) := by decide +kernel
theorem dX1_op_228 : decode cX1_op 228 = .ok (.goto 8, 3) := by decide +kernel
theorem dX1_op_231 : decode cX1_op 231 = .ok (.iload 5, 2) := by decide +kernel
theorem dX1_op_233 : decode cX1_op 233 = .ok (.iload 6, 2) := by decide +kernel
theorem dX1_op_235 : decode cX1_op 235 = .ok (.ixor, 1) := by decide +kernel
theorem dX1_op_236 : decode cX1_op 236 = .ok (.invokevirtual 40, 3) := by decide +kernel
theorem dX1_op_239 : decode cX1_op 239 = .ok (.iconst 0, 1) := by decide +kernel
theorem dX1_op_240 : decode cX1_op 240 = .ok (.istore 8, 2) := by decide +kernel
theorem dX1_op_242 : decode cX1_op 242 = .ok (.iload 8, 2) := by decide +kernel
theorem dX1_op_244 : decode cX1_op 244 = .ok (.bipush 32, 2) := by decide +kernel
theorem dX1_op_246 : decode cX1_op 246 = .ok (.if_icmp .ge 138, 3) := by decide +kernel
theorem dX1_op_249 : decode cX1_op 249 = .ok (.iload_n 1, 1) := by decide +kernel
theorem dX1_op_250 : decode cX1_op 250 = .ok (.iconst 4, 1) := by decide +kernel
theorem dX1_op_251 : decode cX1_op 251 = .ok (.if_icmp .ge 37, 3) := by decide +kernel
theorem dX1_op_254 : decode cX1_op 254 = .ok (.aload_n 0, 1) := by decide +kernel
theorem dX1_op_255 : decode cX1_op 255 = .ok (.iload_n 3, 1) := by decide +kernel
theorem dX1_op_256 : decode cX1_op 256 = .ok (.iload 8, 2) := by decide +kernel
theorem dX1_op_258 : decode cX1_op 258 = .ok (.invokevirtual 47, 3) := by decide +kernel
theorem dX1_op_261 : decode cX1_op 261 = .ok (.ifCond .ne 27, 3) := by decide +kernel
theorem dX1_op_264 : decode cX1_op 264 = .ok (.aload_n 0, 1) := by decide +kernel
theorem dX1_op_265 : decode cX1_op 265 = .ok (.iload_n 3, 1) := by decide +kernel
theorem dX1_op_266 : decode cX1_op 266 = .ok (.iload 8, 2) := by decide +kernel
theorem dX1_op_268 : decode cX1_op 268 = .ok (.invokevirtual 51, 3) := by decide +kernel
theorem dX1_op_271 : decode cX1_op 271 = .ok (.iload_n 1, 1) := by decide +kernel
theorem dX1_op_272 : decode cX1_op 272 = .ok (.iconst 3, 1) := by decide +kernel
theorem dX1_op_273 : decode cX1_op 273 = .ok (.if_icmp .ne 7, 3) := by decide +kernel
theorem dX1_op_276 : decode cX1_op 276 = .ok (.iconst 1, 1) := by decide +kernel
theorem dX1_op_277 : decode cX1_op 277 = .ok (.goto 4, 3) := by decide +kernel
theorem dX1_op_280 : decode cX1_op 280 = .ok (.iconst 0, 1) := by decide +kernel
theorem dX1_op_281 : decode cX1_op 281 = .ok (.if_icmp .ne 7, 3) := by decide +kernel
theorem dX1_op_284 : decode cX1_op 284 = .ok (.iconst 1, 1) := by decide +kernel
theorem dX1_op_285 : decode cX1_op 285 = .ok (.goto 4, 3) := by decide +kernel
theorem dX1_op_288 : decode cX1_op 288 = .ok (.iconst 0, 1) := by decide +kernel
theorem dX1_op_289 : decode cX1_op 289 = .ok (.istore 9, 2) := by decide +kernel
theorem dX1_op_291 : decode cX1_op 291 = .ok (.iload_n 1, 1) := by decide +kernel
theorem dX1_op_292 : decode cX1_op 292 = .ok (.iconst 4, 1) := by decide +kernel
theorem dX1_op_293 : decode cX1_op 293 = .ok (.if_icmp .ge 39, 3) := by decide +kernel
theorem dX1_op_296 : decode cX1_op 296 = .ok (.aload_n 0, 1) := by decide +kernel
theorem dX1_op_297 : decode cX1_op 297 = .ok (.iload 4, 2) := by decide +kernel
theorem dX1_op_299 : decode cX1_op 299 = .ok (.iload 8, 2) := by decide +kernel
theorem dX1_op_301 : decode cX1_op 301 = .ok (.invokevirtual 47, 3) := by decide +kernel
theorem dX1_op_304 : decode cX1_op 304 = .ok (.ifCond .ne 28, 3) := by decide +kernel
theorem dX1_op_307 : decode cX1_op 307 = .ok (.aload_n 0, 1) := by decide +kernel
theorem dX1_op_308 : decode cX1_op 308 = .ok (.iload 4, 2) := by decide +kernel
theorem dX1_op_310 : decode cX1_op 310 = .ok (.iload 8, 2) := by decide +kernel
theorem dX1_op_312 : decode cX1_op 312 = .ok (.invokevirtual 51, 3) := by decide +kernel
theorem dX1_op_315 : decode cX1_op 315 = .ok (.iload_n 1, 1) := by decide +kernel
theorem dX1_op_316 : decode cX1_op 316 = .ok (.iconst 3, 1) := by decide +kernel
theorem dX1_op_317 : decode cX1_op 317 = .ok (.if_icmp .ne 7, 3) := by decide +kernel
theorem dX1_op_320 : decode cX1_op 320 = .ok (.iconst 1, 1) := by decide +kernel
theorem dX1_op_321 : decode cX1_op 321 = .ok (.goto 4, 3) := by decide +kernel
theorem dX1_op_324 : decode cX1_op 324 = .ok (.iconst 0, 1) := by decide +kernel
theorem dX1_op_325 : decode cX1_op 325 = .ok (.if_icmp .ne 7, 3) := by decide +kernel
theorem dX1_op_328 : decode cX1_op 328 = .ok (.iconst 1, 1) := by decide +kernel
theorem dX1_op_329 : decode cX1_op 329 = .ok (.goto 4, 3) := by decide +kernel
theorem dX1_op_332 : decode cX1_op 332 = .ok (.iconst 0, 1) := by decide +kernel
theorem dX1_op_333 : decode cX1_op 333 = .ok (.istore 10, 2) := by decide +kernel
theorem dX1_op_335 : decode cX1_op 335 = .ok (.aload_n 0, 1) := by decide +kernel
theorem dX1_op_336 : decode cX1_op 336 = .ok (.getfield 25, 3) := by decide +kernel
theorem dX1_op_339 : decode cX1_op 339 = .ok (.iload 8, 2) := by decide +kernel
theorem dX1_op_341 : decode cX1_op 341 = .ok (.aload_n 0, 1) := by decide +kernel
theorem dX1_op_342 : decode cX1_op 342 = .ok (.iload_n 3, 1) := by decide +kernel
theorem dX1_op_343 : decode cX1_op 343 = .ok (.iload 8, 2) := by decide +kernel
theorem dX1_op_345 : decode cX1_op 345 = .ok (.invokevirtual 47, 3) := by decide +kernel
theorem dX1_op_348 : decode cX1_op 348 = .ok (.ifCond .ne 14, 3) := by decide +kernel
theorem dX1_op_351 : decode cX1_op 351 = .ok (.aload_n 0, 1) := by decide +kernel
theorem dX1_op_352 : decode cX1_op 352 = .ok (.iload 4, 2) := by decide +kernel
theorem dX1_op_354 : decode cX1_op 354 = .ok (.iload 8, 2) := by decide +kernel
theorem dX1_op_356 : decode cX1_op 356 = .ok (.invokevirtual 47, 3) := by decide +kernel
theorem dX1_op_359 : decode cX1_op 359 = .ok (.ifCond .eq 17, 3) := by decide +kernel
theorem dX1_op_362 : decode cX1_op 362 = .ok (.iload 9, 2) := by decide +kernel
theorem dX1_op_364 : decode cX1_op 364 = .ok (.ifCond .ne 12, 3) := by decide +kernel
theorem dX1_op_367 : decode cX1_op 367 = .ok (.iload 10, 2) := by decide +kernel
theorem dX1_op_369 : decode cX1_op 369 = .ok (.ifCond .ne 7, 3) := by decide +kernel
theorem dX1_op_372 : decode cX1_op 372 = .ok (.iconst 1, 1) := by decide +kernel
theorem dX1_op_373 : decode cX1_op 373 = .ok (.goto 4, 3) := by decide +kernel
theorem dX1_op_376 : decode cX1_op 376 = .ok (.iconst 0, 1) := by decide +kernel
theorem dX1_op_377 : decode cX1_op 377 = .ok (.bastore, 1) := by decide +kernel
theorem dX1_op_378 : decode cX1_op 378 = .ok (.iinc 8 1, 3) := by decide +kernel
theorem dX1_op_381 : decode cX1_op 381 = .ok (.goto (-139), 3) := by decide +kernel
theorem dX1_op_384 : decode cX1_op 384 = .ok (.goto 394, 3) := by decide +kernel
theorem dX1_op_387 : decode cX1_op 387 = .ok (.aload_n 0, 1) := by decide +kernel
theorem dX1_op_388 : decode cX1_op 388 = .ok (.iload_n 1, 1) := by decide +kernel
theorem dX1_op_389 : decode cX1_op 389 = .ok (.iload_n 3, 1) := by decide +kernel
theorem dX1_op_390 : decode cX1_op 390 = .ok (.iload 4, 2) := by decide +kernel
theorem dX1_op_392 : decode cX1_op 392 = .ok (.iload 6, 2) := by decide +kernel
theorem dX1_op_394 : decode cX1_op 394 = .ok (.bipush 31, 2) := by decide +kernel
theorem dX1_op_396 : decode cX1_op 396 = .ok (.iand, 1) := by decide +kernel
theorem dX1_op_397 : decode cX1_op 397 = .ok (.invokevirtual 64, 3) := by decide +kernel
theorem dX1_op_400 : decode cX1_op 400 = .ok (.goto 378, 3) := by decide +kernel
theorem dX1_op_403 : decode cX1_op 403 = .ok (.aload_n 0, 1) := by decide +kernel
theorem dX1_op_404 : decode cX1_op 404 = .ok (.iload 5, 2) := by decide +kernel
theorem dX1_op_406 : decode cX1_op 406 = .ok (.iload 6, 2) := by decide +kernel
theorem dX1_op_408 : decode cX1_op 408 = .ok (.imul, 1) := by decide +kernel
theorem dX1_op_409 : decode cX1_op 409 = .ok (.invokevirtual 40, 3) := by decide +kernel
theorem dX1_op_412 : decode cX1_op 412 = .ok (.aload_n 0, 1) := by decide +kernel
theorem dX1_op_413 : decode cX1_op 413 = .ok (.iload_n 3, 1) := by decide +kernel
theorem dX1_op_414 : decode cX1_op 414 = .ok (.invokevirtual 58, 3) := by decide +kernel
theorem dX1_op_417 : decode cX1_op 417 = .ok (.bipush 32, 2) := by decide +kernel
theorem dX1_op_419 : decode cX1_op 419 = .ok (.if_icmp .eq 14, 3) := by decide +kernel
theorem dX1_op_422 : decode cX1_op 422 = .ok (.aload_n 0, 1) := by decide +kernel
theorem dX1_op_423 : decode cX1_op 423 = .ok (.iload 4, 2) := by decide +kernel
theorem dX1_op_425 : decode cX1_op 425 = .ok (.invokevirtual 68, 3) := by decide +kernel
theorem dX1_op_428 : decode cX1_op 428 = .ok (.bipush 32, 2) := by decide +kernel
theorem dX1_op_430 : decode cX1_op 430 = .ok (.if_icmp .ne 8, 3) := by decide +kernel
theorem dX1_op_433 : decode cX1_op 433 = .ok (.bipush 32, 2) := by decide +kernel
theorem dX1_op_435 : decode cX1_op 435 = .ok (.goto 15, 3) := by decide +kernel
theorem dX1_op_438 : decode cX1_op 438 = .ok (.aload_n 0, 1) := by decide +kernel
theorem dX1_op_439 : decode cX1_op 439 = .ok (.iload_n 3, 1) := by decide +kernel
theorem dX1_op_440 : decode cX1_op 440 = .ok (.invokevirtual 58, 3) := by decide +kernel
theorem dX1_op_443 : decode cX1_op 443 = .ok (.aload_n 0, 1) := by decide +kernel
theorem dX1_op_444 : decode cX1_op 444 = .ok (.iload 4, 2) := by decide +kernel
theorem dX1_op_446 : decode cX1_op 446 = .ok (.invokevirtual 68, 3) := by decide +kernel
theorem dX1_op_449 : decode cX1_op 449 = .ok (.iadd, 1) := by decide +kernel
theorem dX1_op_450 : decode cX1_op 450 = .ok (.istore 8, 2) := by decide +kernel
theorem dX1_op_452 : decode cX1_op 452 = .ok (.aload_n 0, 1) := by decide +kernel
theorem dX1_op_453 : decode cX1_op 453 = .ok (.iload 4, 2) := by decide +kernel
theorem dX1_op_455 : decode cX1_op 455 = .ok (.invokevirtual 58, 3) := by decide +kernel
theorem dX1_op_458 : decode cX1_op 458 = .ok (.bipush 32, 2) := by decide +kernel
theorem dX1_op_460 : decode cX1_op 460 = .ok (.if_icmp .eq 13, 3) := by decide +kernel
theorem dX1_op_463 : decode cX1_op 463 = .ok (.aload_n 0, 1) := by decide +kernel
theorem dX1_op_464 : decode cX1_op 464 = .ok (.iload_n 3, 1) := by decide +kernel
theorem dX1_op_465 : decode cX1_op 465 = .ok (.invokevirtual 68, 3) := by decide +kernel
theorem dX1_op_468 : decode cX1_op 468 = .ok (.bipush 32, 2) := by decide +kernel
theorem dX1_op_470 : decode cX1_op 470 = .ok (.if_icmp .ne 8, 3) := by decide +kernel
theorem dX1_op_473 : decode cX1_op 473 = .ok (.bipush 32, 2) := by decide +kernel
theorem dX1_op_475 : decode cX1_op 475 = .ok (.goto 15, 3) := by decide +kernel
theorem dX1_op_478 : decode cX1_op 478 = .ok (.aload_n 0, 1) := by decide +kernel
theorem dX1_op_479 : decode cX1_op 479 = .ok (.iload 4, 2) := by decide +kernel
theorem dX1_op_481 : decode cX1_op 481 = .ok (.invokevirtual 58, 3) := by decide +kernel
theorem dX1_op_484 : decode cX1_op 484 = .ok (.aload_n 0, 1) := by decide +kernel
theorem dX1_op_485 : decode cX1_op 485 = .ok (.iload_n 3, 1) := by decide +kernel
theorem dX1_op_486 : decode cX1_op 486 = .ok (.invokevirtual 68, 3) := by decide +kernel
theorem dX1_op_489 : decode cX1_op 489 = .ok (.iadd, 1) := by decide +kernel
theorem dX1_op_490 : decode cX1_op 490 = .ok (.istore 9, 2) := by decide +kernel
theorem dX1_op_492 : decode cX1_op 492 = .ok (.aload_n 0, 1) := by decide +kernel
theorem dX1_op_493 : decode cX1_op 493 = .ok (.iload 8, 2) := by decide +kernel
theorem dX1_op_495 : decode cX1_op 495 = .ok (.iload 9, 2) := by decide +kernel
theorem dX1_op_497 : decode cX1_op 497 = .ok (.if_icmp .ge 8, 3) := by decide +kernel
theorem dX1_op_500 : decode cX1_op 500 = .ok (.iload 8, 2) := by decide +kernel
theorem dX1_op_502 : decode cX1_op 502 = .ok (.goto 5, 3) := by decide +kernel
theorem dX1_op_505 : decode cX1_op 505 = .ok (.iload 9, 2) := by decide +kernel
theorem dX1_op_507 : decode cX1_op 507 = .ok (.invokevirtual 61, 3) := by decide +kernel
theorem dX1_op_510 : decode cX1_op 510 = .ok (.goto 268, 3) := by decide +kernel
theorem dX1_op_513 : decode cX1_op 513 = .ok (.aload_n 0, 1) := by decide +kernel
theorem dX1_op_514 : decode cX1_op 514 = .ok (.iload 5, 2) := by decide +kernel
theorem dX1_op_516 : decode cX1_op 516 = .ok (.iload 6, 2) := by decide +kernel
theorem dX1_op_518 : decode cX1_op 518 = .ok (.if_icmp .ge 7, 3) := by decide +kernel
theorem dX1_op_521 : decode cX1_op 521 = .ok (.iconst 1, 1) := by decide +kernel
theorem dX1_op_522 : decode cX1_op 522 = .ok (.goto 4, 3) := by decide +kernel
theorem dX1_op_525 : decode cX1_op 525 = .ok (.iconst 0, 1) := by decide +kernel
theorem dX1_op_526 : decode cX1_op 526 = .ok (.invokevirtual 40, 3) := by decide +kernel
theorem dX1_op_529 : decode cX1_op 529 = .ok (.aload_n 0, 1) := by decide +kernel
theorem dX1_op_530 : decode cX1_op 530 = .ok (.getfield 25, 3) := by decide +kernel
theorem dX1_op_533 : decode cX1_op 533 = .ok (.iconst 0, 1) := by decide +kernel
theorem dX1_op_534 : decode cX1_op 534 = .ok (.aload_n 0, 1) := by decide +kernel
theorem dX1_op_535 : decode cX1_op 535 = .ok (.iload_n 3, 1) := by decide +kernel
theorem dX1_op_536 : decode cX1_op 536 = .ok (.iconst 1, 1) := by decide +kernel
theorem dX1_op_537 : decode cX1_op 537 = .ok (.iconst 1, 1) := by decide +kernel
theorem dX1_op_538 : decode cX1_op 538 = .ok (.invokevirtual 71, 3) := by decide +kernel
theorem dX1_op_541 : decode cX1_op 541 = .ok (.aload_n 0, 1) := by decide +kernel
theorem dX1_op_542 : decode cX1_op 542 = .ok (.iload 4, 2) := by decide +kernel
theorem dX1_op_544 : decode cX1_op 544 = .ok (.iconst 0, 1) := by decide +kernel
theorem dX1_op_545 : decode cX1_op 545 = .ok (.iconst 1, 1) := by decide +kernel
theorem dX1_op_546 : decode cX1_op 546 = .ok (.invokevirtual 71, 3) := by decide +kernel
theorem dX1_op_549 : decode cX1_op 549 = .ok (.lcmp, 1) := by decide +kernel
theorem dX1_op_550 : decode cX1_op 550 = .ok (.ifCond .lt 26, 3) := by decide +kernel
theorem dX1_op_553 : decode cX1_op 553 = .ok (.aload_n 0, 1) := by decide +kernel
theorem dX1_op_554 : decode cX1_op 554 = .ok (.iload_n 3, 1) := by decide +kernel
theorem dX1_op_555 : decode cX1_op 555 = .ok (.iconst 0, 1) := by decide +kernel
theorem dX1_op_556 : decode cX1_op 556 = .ok (.iconst 1, 1) := by decide +kernel
theorem dX1_op_557 : decode cX1_op 557 = .ok (.invokevirtual 71, 3) := by decide +kernel
theorem dX1_op_560 : decode cX1_op 560 = .ok (.aload_n 0, 1) := by decide +kernel
theorem dX1_op_561 : decode cX1_op 561 = .ok (.iload 4, 2) := by decide +kernel
theorem dX1_op_563 : decode cX1_op 563 = .ok (.iconst 1, 1) := by decide +kernel
theorem dX1_op_564 : decode cX1_op 564 = .ok (.iconst 1, 1) := by decide +kernel
theorem dX1_op_565 : decode cX1_op 565 = .ok (.invokevirtual 71, 3) := by decide +kernel
theorem dX1_op_568 : decode cX1_op 568 = .ok (.lcmp, 1) := by decide +kernel
theorem dX1_op_569 : decode cX1_op 569 = .ok (.ifCond .ge 7, 3) := by decide +kernel
theorem dX1_op_572 : decode cX1_op 572 = .ok (.iconst 1, 1) := by decide +kernel
theorem dX1_op_573 : decode cX1_op 573 = .ok (.goto 4, 3) := by decide +kernel
theorem dX1_op_576 : decode cX1_op 576 = .ok (.iconst 0, 1) := by decide +kernel
theorem dX1_op_577 : decode cX1_op 577 = .ok (.bastore, 1) := by decide +kernel
theorem dX1_op_578 : decode cX1_op 578 = .ok (.goto 200, 3) := by decide +kernel
theorem dX1_op_581 : decode cX1_op 581 = .ok (.aload_n 0, 1) := by decide +kernel
theorem dX1_op_582 : decode cX1_op 582 = .ok (.iload 5, 2) := by decide +kernel
theorem dX1_op_584 : decode cX1_op 584 = .ok (.i2l, 1) := by decide +kernel
theorem dX1_op_585 : decode cX1_op 585 = .ok (.ldc2_w 75, 3) := by decide +kernel
theorem dX1_op_588 : decode cX1_op 588 = .ok (.land, 1) := by decide +kernel
theorem dX1_op_589 : decode cX1_op 589 = .ok (.iload 6, 2) := by decide +kernel
theorem dX1_op_591 : decode cX1_op 591 = .ok (.i2l, 1) := by decide +kernel
theorem dX1_op_592 : decode cX1_op 592 = .ok (.ldc2_w 75, 3) := by decide +kernel
theorem dX1_op_595 : decode cX1_op 595 = .ok (.land, 1) := by decide +kernel
theorem dX1_op_596 : decode cX1_op 596 = .ok (.lcmp, 1) := by decide +kernel
theorem dX1_op_597 : decode cX1_op 597 = .ok (.ifCond .ge 7, 3) := by decide +kernel
theorem dX1_op_600 : decode cX1_op 600 = .ok (.iconst 1, 1) := by decide +kernel
theorem dX1_op_601 : decode cX1_op 601 = .ok (.goto 4, 3) := by decide +kernel
theorem dX1_op_604 : decode cX1_op 604 = .ok (.iconst 0, 1) := by decide +kernel
theorem dX1_op_605 : decode cX1_op 605 = .ok (.invokevirtual 40, 3) := by decide +kernel
theorem dX1_op_608 : decode cX1_op 608 = .ok (.aload_n 0, 1) := by decide +kernel
theorem dX1_op_609 : decode cX1_op 609 = .ok (.getfield 25, 3) := by decide +kernel
theorem dX1_op_612 : decode cX1_op 612 = .ok (.iconst 0, 1) := by decide +kernel
theorem dX1_op_613 : decode cX1_op 613 = .ok (.aload_n 0, 1) := by decide +kernel
theorem dX1_op_614 : decode cX1_op 614 = .ok (.iload_n 3, 1) := by decide +kernel
theorem dX1_op_615 : decode cX1_op 615 = .ok (.iconst 1, 1) := by decide +kernel
theorem dX1_op_616 : decode cX1_op 616 = .ok (.iconst 0, 1) := by decide +kernel
theorem dX1_op_617 : decode cX1_op 617 = .ok (.invokevirtual 71, 3) := by decide +kernel
theorem dX1_op_620 : decode cX1_op 620 = .ok (.aload_n 0, 1) := by decide +kernel
theorem dX1_op_621 : decode cX1_op 621 = .ok (.iload 4, 2) := by decide +kernel
theorem dX1_op_623 : decode cX1_op 623 = .ok (.iconst 0, 1) := by decide +kernel
theorem dX1_op_624 : decode cX1_op 624 = .ok (.iconst 0, 1) := by decide +kernel
theorem dX1_op_625 : decode cX1_op 625 = .ok (.invokevirtual 71, 3) := by decide +kernel
theorem dX1_op_628 : decode cX1_op 628 = .ok (.lcmp, 1) := by decide +kernel
theorem dX1_op_629 : decode cX1_op 629 = .ok (.ifCond .lt 26, 3) := by decide +kernel
theorem dX1_op_632 : decode cX1_op 632 = .ok (.aload_n 0, 1) := by decide +kernel
theorem dX1_op_633 : decode cX1_op 633 = .ok (.iload_n 3, 1) := by decide +kernel
theorem dX1_op_634 : decode cX1_op 634 = .ok (.iconst 0, 1) := by decide +kernel
theorem dX1_op_635 : decode cX1_op 635 = .ok (.iconst 0, 1) := by decide +kernel
theorem dX1_op_636 : decode cX1_op 636 = .ok (.invokevirtual 71, 3) := by decide +kernel
theorem dX1_op_639 : decode cX1_op 639 = .ok (.aload_n 0, 1) := by decide +kernel
theorem dX1_op_640 : decode cX1_op 640 = .ok (.iload 4, 2) := by decide +kernel
theorem dX1_op_642 : decode cX1_op 642 = .ok (.iconst 1, 1) := by decide +kernel
theorem dX1_op_643 : decode cX1_op 643 = .ok (.iconst 0, 1) := by decide +kernel
theorem dX1_op_644 : decode cX1_op 644 = .ok (.invokevirtual 71, 3) := by decide +kernel
theorem dX1_op_647 : decode cX1_op 647 = .ok (.lcmp, 1) := by decide +kernel
theorem dX1_op_648 : decode cX1_op 648 = .ok (.ifCond .ge 7, 3) := by decide +kernel
theorem dX1_op_651 : decode cX1_op 651 = .ok (.iconst 1, 1) := by decide +kernel
theorem dX1_op_652 : decode cX1_op 652 = .ok (.goto 4, 3) := by decide +kernel
theorem dX1_op_655 : decode cX1_op 655 = .ok (.iconst 0, 1) := by decide +kernel
theorem dX1_op_656 : decode cX1_op 656 = .ok (.bastore, 1) := by decide +kernel
theorem dX1_op_657 : decode cX1_op 657 = .ok (.goto 121, 3) := by decide +kernel
theorem dX1_op_660 : decode cX1_op 660 = .ok (.aload_n 0, 1) := by decide +kernel
theorem dX1_op_661 : decode cX1_op 661 = .ok (.iload 5, 2) := by decide +kernel
theorem dX1_op_663 : decode cX1_op 663 = .ok (.iload 6, 2) := by decide +kernel
theorem dX1_op_665 : decode cX1_op 665 = .ok (.if_icmp .ne 7, 3) := by decide +kernel
theorem dX1_op_668 : decode cX1_op 668 = .ok (.iconst 1, 1) := by decide +kernel
theorem dX1_op_669 : decode cX1_op 669 = .ok (.goto 4, 3) := by decide +kernel
theorem dX1_op_672 : decode cX1_op 672 = .ok (.iconst 0, 1) := by decide +kernel
theorem dX1_op_673 : decode cX1_op 673 = .ok (.invokevirtual 40, 3) := by decide +kernel
theorem dX1_op_676 : decode cX1_op 676 = .ok (.iconst 0, 1) := by decide +kernel
theorem dX1_op_677 : decode cX1_op 677 = .ok (.istore 8, 2) := by decide +kernel
theorem dX1_op_679 : decode cX1_op 679 = .ok (.iconst 1, 1) := by decide +kernel
theorem dX1_op_680 : decode cX1_op 680 = .ok (.istore 9, 2) := by decide +kernel
theorem dX1_op_682 : decode cX1_op 682 = .ok (.iconst 0, 1) := by decide +kernel
theorem dX1_op_683 : decode cX1_op 683 = .ok (.istore 10, 2) := by decide +kernel
theorem dX1_op_685 : decode cX1_op 685 = .ok (.iload 10, 2) := by decide +kernel
theorem dX1_op_687 : decode cX1_op 687 = .ok (.bipush 32, 2) := by decide +kernel
theorem dX1_op_689 : decode cX1_op 689 = .ok (.if_icmp .ge 57, 3) := by decide +kernel
theorem dX1_op_692 : decode cX1_op 692 = .ok (.aload_n 0, 1) := by decide +kernel
theorem dX1_op_693 : decode cX1_op 693 = .ok (.iload_n 3, 1) := by decide +kernel
theorem dX1_op_694 : decode cX1_op 694 = .ok (.iload 10, 2) := by decide +kernel
theorem dX1_op_696 : decode cX1_op 696 = .ok (.invokevirtual 47, 3) := by decide +kernel
theorem dX1_op_699 : decode cX1_op 699 = .ok (.ifCond .ne 14, 3) := by decide +kernel
theorem dX1_op_702 : decode cX1_op 702 = .ok (.aload_n 0, 1) := by decide +kernel
theorem dX1_op_703 : decode cX1_op 703 = .ok (.iload 4, 2) := by decide +kernel
theorem dX1_op_705 : decode cX1_op 705 = .ok (.iload 10, 2) := by decide +kernel
theorem dX1_op_707 : decode cX1_op 707 = .ok (.invokevirtual 47, 3) := by decide +kernel
theorem dX1_op_710 : decode cX1_op 710 = .ok (.ifCond .eq 9, 3) := by decide +kernel
theorem dX1_op_713 : decode cX1_op 713 = .ok (.iconst 0, 1) := by decide +kernel
theorem dX1_op_714 : decode cX1_op 714 = .ok (.istore 9, 2) := by decide +kernel
theorem dX1_op_716 : decode cX1_op 716 = .ok (.goto 24, 3) := by decide +kernel
theorem dX1_op_719 : decode cX1_op 719 = .ok (.aload_n 0, 1) := by decide +kernel
theorem dX1_op_720 : decode cX1_op 720 = .ok (.iload_n 3, 1) := by decide +kernel
theorem dX1_op_721 : decode cX1_op 721 = .ok (.iload 10, 2) := by decide +kernel
theorem dX1_op_723 : decode cX1_op 723 = .ok (.invokevirtual 51, 3) := by decide +kernel
theorem dX1_op_726 : decode cX1_op 726 = .ok (.aload_n 0, 1) := by decide +kernel
theorem dX1_op_727 : decode cX1_op 727 = .ok (.iload 4, 2) := by decide +kernel
theorem dX1_op_729 : decode cX1_op 729 = .ok (.iload 10, 2) := by decide +kernel
theorem dX1_op_731 : decode cX1_op 731 = .ok (.invokevirtual 51, 3) := by decide +kernel
theorem dX1_op_734 : decode cX1_op 734 = .ok (.if_icmp .eq 6, 3) := by decide +kernel
theorem dX1_op_737 : decode cX1_op 737 = .ok (.iconst 1, 1) := by decide +kernel
theorem dX1_op_738 : decode cX1_op 738 = .ok (.istore 8, 2) := by decide +kernel
theorem dX1_op_740 : decode cX1_op 740 = .ok (.iinc 10 1, 3) := by decide +kernel
theorem dX1_op_743 : decode cX1_op 743 = .ok (.goto (-58), 3) := by decide +kernel
theorem dX1_op_746 : decode cX1_op 746 = .ok (.aload_n 0, 1) := by decide +kernel
theorem dX1_op_747 : decode cX1_op 747 = .ok (.getfield 25, 3) := by decide +kernel
theorem dX1_op_750 : decode cX1_op 750 = .ok (.iconst 0, 1) := by decide +kernel
theorem dX1_op_751 : decode cX1_op 751 = .ok (.iload 8, 2) := by decide +kernel
theorem dX1_op_753 : decode cX1_op 753 = .ok (.ifCond .ne 12, 3) := by decide +kernel
theorem dX1_op_756 : decode cX1_op 756 = .ok (.iload 9, 2) := by decide +kernel
theorem dX1_op_758 : decode cX1_op 758 = .ok (.ifCond .ne 7, 3) := by decide +kernel
theorem dX1_op_761 : decode cX1_op 761 = .ok (.iconst 1, 1) := by decide +kernel
theorem dX1_op_762 : decode cX1_op 762 = .ok (.goto 4, 3) := by decide +kernel
theorem dX1_op_765 : decode cX1_op 765 = .ok (.iconst 0, 1) := by decide +kernel
theorem dX1_op_766 : decode cX1_op 766 = .ok (.bastore, 1) := by decide +kernel
theorem dX1_op_767 : decode cX1_op 767 = .ok (.goto 11, 3) := by decide +kernel
theorem dX1_op_770 : decode cX1_op 770 = .ok (.aload_n 0, 1) := by decide +kernel
theorem dX1_op_771 : decode cX1_op 771 = .ok (.iload_n 2, 1) := by decide +kernel
theorem dX1_op_772 : decode cX1_op 772 = .ok (.iload_n 3, 1) := by decide +kernel
theorem dX1_op_773 : decode cX1_op 773 = .ok (.iload 4, 2) := by decide +kernel
theorem dX1_op_775 : decode cX1_op 775 = .ok (.invokevirtual 77, 3) := by decide +kernel
theorem dX1_op_778 : decode cX1_op 778 = .ok (.aload_n 0, 1) := by decide +kernel
theorem dX1_op_779 : decode cX1_op 779 = .ok (.iload_n 2, 1) := by decide +kernel
theorem dX1_op_780 : decode cX1_op 780 = .ok (.invokevirtual 44, 3) := by decide +kernel
theorem dX1_op_783 : decode cX1_op 783 = .ok (.return_, 1) := by decide +kernel
