/-! the rows of the tables, one by one -/
theorem kT_286 (pc : Nat) : xT.1 286 pc = xfind k_286 pc := rfl
set_option maxRecDepth 100000 in
theorem r_286_0 : xT.1 286 0 = some (.new 8, ((8, 9), ([.null, .null, .null, .null, .null, .null, .int 0, .int 0, .int 0], []))) := (kT_286 0).trans rfl
set_option maxRecDepth 100000 in
theorem r_286_3 : xT.1 286 3 = some (.dup, ((0, 0), ([], []))) := (kT_286 3).trans rfl
set_option maxRecDepth 100000 in
theorem r_286_4 : xT.1 286 4 = some (.invokespecial 160, ((83, 1), ([], [2]))) := (kT_286 4).trans rfl
set_option maxRecDepth 100000 in
theorem r_286_7 : xT.1 286 7 = some (.astore_n 1, ((0, 0), ([], []))) := (kT_286 7).trans rfl
set_option maxRecDepth 100000 in
theorem r_286_8 : xT.1 286 8 = some (.new 161, ((9, 17), ([.null, .null, .null, .int 0, .null, .int 0, .null, .int 0, .int 0, .int 0, .null, .int 0, .int 0, .null, .int 0, .int 0, .null], []))) := (kT_286 8).trans rfl
set_option maxRecDepth 100000 in
theorem r_286_11 : xT.1 286 11 = some (.dup, ((0, 0), ([], []))) := (kT_286 11).trans rfl
set_option maxRecDepth 100000 in
theorem r_286_12 : xT.1 286 12 = some (.invokespecial 163, ((148, 1), ([], [2]))) := (kT_286 12).trans rfl
set_option maxRecDepth 100000 in
theorem r_286_15 : xT.1 286 15 = some (.astore_n 2, ((0, 0), ([], []))) := (kT_286 15).trans rfl
set_option maxRecDepth 100000 in
theorem r_286_16 : xT.1 286 16 = some (.iconst 1, ((0, 0), ([.int 1], []))) := (kT_286 16).trans rfl
set_option maxRecDepth 100000 in
theorem r_286_17 : xT.1 286 17 = some (.newarray .long, ((0, 0), ([], []))) := (kT_286 17).trans rfl
set_option maxRecDepth 100000 in
theorem r_286_19 : xT.1 286 19 = some (.astore_n 3, ((0, 0), ([], []))) := (kT_286 19).trans rfl
set_option maxRecDepth 100000 in
theorem r_286_20 : xT.1 286 20 = some (.iconst 1, ((0, 0), ([.int 1], []))) := (kT_286 20).trans rfl
set_option maxRecDepth 100000 in
theorem r_286_21 : xT.1 286 21 = some (.newarray .double, ((0, 0), ([], []))) := (kT_286 21).trans rfl
set_option maxRecDepth 100000 in
theorem r_286_23 : xT.1 286 23 = some (.astore 4, ((0, 0), ([], []))) := (kT_286 23).trans rfl
set_option maxRecDepth 100000 in
theorem r_286_25 : xT.1 286 25 = some (.iconst 0, ((0, 0), ([.int 0], []))) := (kT_286 25).trans rfl
set_option maxRecDepth 100000 in
theorem r_286_26 : xT.1 286 26 = some (.istore 5, ((0, 0), ([], []))) := (kT_286 26).trans rfl
set_option maxRecDepth 100000 in
theorem r_286_28 : xT.1 286 28 = some (.iload 5, ((0, 0), ([], []))) := (kT_286 28).trans rfl
set_option maxRecDepth 100000 in
theorem r_286_30 : xT.1 286 30 = some (.aload_n 0, ((0, 0), ([], []))) := (kT_286 30).trans rfl
set_option maxRecDepth 100000 in
theorem r_286_31 : xT.1 286 31 = some (.arraylength, ((0, 0), ([], []))) := (kT_286 31).trans rfl
set_option maxRecDepth 100000 in
theorem r_286_32 : xT.1 286 32 = some (.bipush 7, ((0, 0), ([.int 7], []))) := (kT_286 32).trans rfl
set_option maxRecDepth 100000 in
theorem r_286_34 : xT.1 286 34 = some (.isub, ((0, 0), ([], []))) := (kT_286 34).trans rfl
set_option maxRecDepth 100000 in
theorem r_286_35 : xT.1 286 35 = some (.if_icmp .gt 2868, ((2903, 0), ([], []))) := (kT_286 35).trans rfl
set_option maxRecDepth 100000 in
theorem r_286_38 : xT.1 286 38 = some (.aload_n 0, ((0, 0), ([], []))) := (kT_286 38).trans rfl
set_option maxRecDepth 100000 in
theorem r_286_39 : xT.1 286 39 = some (.iload 5, ((0, 0), ([], []))) := (kT_286 39).trans rfl
set_option maxRecDepth 100000 in
theorem r_286_41 : xT.1 286 41 = some (.iaload, ((0, 0), ([], []))) := (kT_286 41).trans rfl
set_option maxRecDepth 100000 in
theorem r_286_42 : xT.1 286 42 = some (.bipush 63, ((0, 0), ([.int 63], []))) := (kT_286 42).trans rfl
set_option maxRecDepth 100000 in
theorem r_286_44 : xT.1 286 44 = some (.iand, ((0, 0), ([], []))) := (kT_286 44).trans rfl
set_option maxRecDepth 100000 in
theorem r_286_45 : xT.1 286 45 = some (.tableswitch 2852 0 50 #[219, 263, 319, 437, 493, 537, 593, 606, 662, 725, 738, 751, 764, 820, 876, 932, 988, 1056, 1131, 1199, 1267, 1335, 1403, 1471, 1539, 1595, 1651, 1707, 1720, 1776, 1832, 1888, 1944, 2021, 2077, 2121, 2177, 2233, 2289, 2345, 2423, 2436, 2494, 2538, 2582, 2626, 2682, 2738, 2751, 2795, 2808], ((2897, 219), ([], [264, 308, 364, 482, 538, 582, 638, 651, 707, 770, 783, 796, 809, 865, 921, 977, 1033, 1101, 1176, 1244, 1312, 1380, 1448, 1516, 1584, 1640, 1696, 1752, 1765, 1821, 1877, 1933, 1989, 2066, 2122, 2166, 2222, 2278, 2334, 2390, 2468, 2481, 2539, 2583, 2627, 2671, 2727, 2783, 2796, 2840, 2853]))) := (kT_286 45).trans rfl
set_option maxRecDepth 100000 in
theorem r_286_264 : xT.1 286 264 = some (.aload_n 1, ((0, 0), ([], []))) := (kT_286 264).trans rfl
set_option maxRecDepth 100000 in
theorem r_286_265 : xT.1 286 265 = some (.aload_n 3, ((0, 0), ([], []))) := (kT_286 265).trans rfl
set_option maxRecDepth 100000 in
theorem r_286_266 : xT.1 286 266 = some (.invokestatic 164, ((243, 2), ([], [3]))) := (kT_286 266).trans rfl
set_option maxRecDepth 100000 in
theorem r_286_269 : xT.1 286 269 = some (.istore 6, ((0, 0), ([], []))) := (kT_286 269).trans rfl
set_option maxRecDepth 100000 in
theorem r_286_271 : xT.1 286 271 = some (.aload_n 2, ((0, 0), ([], []))) := (kT_286 271).trans rfl
set_option maxRecDepth 100000 in
theorem r_286_272 : xT.1 286 272 = some (.invokevirtual 169, ((162, 1), ([], [0]))) := (kT_286 272).trans rfl
set_option maxRecDepth 100000 in
theorem r_286_275 : xT.1 286 275 = some (.istore 7, ((0, 0), ([], []))) := (kT_286 275).trans rfl
set_option maxRecDepth 100000 in
theorem r_286_277 : xT.1 286 277 = some (.aload_n 2, ((0, 0), ([], []))) := (kT_286 277).trans rfl
set_option maxRecDepth 100000 in
theorem r_286_278 : xT.1 286 278 = some (.invokevirtual 170, ((149, 1), ([], [0]))) := (kT_286 278).trans rfl
set_option maxRecDepth 100000 in
theorem r_286_281 : xT.1 286 281 = some (.iload 6, ((0, 0), ([], []))) := (kT_286 281).trans rfl
set_option maxRecDepth 100000 in
theorem r_286_283 : xT.1 286 283 = some (.if_icmp .eq 5, ((288, 0), ([], []))) := (kT_286 283).trans rfl
set_option maxRecDepth 100000 in
theorem r_286_286 : xT.1 286 286 = some (.iconst 0, ((0, 0), ([.int 0], []))) := (kT_286 286).trans rfl
set_option maxRecDepth 100000 in
theorem r_286_287 : xT.1 286 287 = some (.ireturn, ((0, 0), ([], []))) := (kT_286 287).trans rfl
set_option maxRecDepth 100000 in
theorem r_286_288 : xT.1 286 288 = some (.iload 6, ((0, 0), ([], []))) := (kT_286 288).trans rfl
set_option maxRecDepth 100000 in
theorem r_286_290 : xT.1 286 290 = some (.ifCond .ne 15, ((305, 0), ([], []))) := (kT_286 290).trans rfl
set_option maxRecDepth 100000 in
theorem r_286_293 : xT.1 286 293 = some (.aload_n 3, ((0, 0), ([], []))) := (kT_286 293).trans rfl
set_option maxRecDepth 100000 in
theorem r_286_294 : xT.1 286 294 = some (.iconst 0, ((0, 0), ([.int 0], []))) := (kT_286 294).trans rfl
set_option maxRecDepth 100000 in
theorem r_286_295 : xT.1 286 295 = some (.laload, ((0, 0), ([], []))) := (kT_286 295).trans rfl
set_option maxRecDepth 100000 in
theorem r_286_296 : xT.1 286 296 = some (.iload 7, ((0, 0), ([], []))) := (kT_286 296).trans rfl
set_option maxRecDepth 100000 in
theorem r_286_298 : xT.1 286 298 = some (.i2l, ((0, 0), ([], []))) := (kT_286 298).trans rfl
set_option maxRecDepth 100000 in
theorem r_286_299 : xT.1 286 299 = some (.lcmp, ((0, 0), ([], []))) := (kT_286 299).trans rfl
set_option maxRecDepth 100000 in
theorem r_286_300 : xT.1 286 300 = some (.ifCond .eq 5, ((305, 0), ([], []))) := (kT_286 300).trans rfl
set_option maxRecDepth 100000 in
theorem r_286_303 : xT.1 286 303 = some (.iconst 0, ((0, 0), ([.int 0], []))) := (kT_286 303).trans rfl
set_option maxRecDepth 100000 in
theorem r_286_304 : xT.1 286 304 = some (.ireturn, ((0, 0), ([], []))) := (kT_286 304).trans rfl
set_option maxRecDepth 100000 in
theorem r_286_305 : xT.1 286 305 = some (.goto 2592, ((2897, 0), ([], []))) := (kT_286 305).trans rfl
set_option maxRecDepth 100000 in
theorem r_286_308 : xT.1 286 308 = some (.aload_n 1, ((0, 0), ([], []))) := (kT_286 308).trans rfl
set_option maxRecDepth 100000 in
theorem r_286_309 : xT.1 286 309 = some (.aload_n 0, ((0, 0), ([], []))) := (kT_286 309).trans rfl
set_option maxRecDepth 100000 in
theorem r_286_310 : xT.1 286 310 = some (.iload 5, ((0, 0), ([], []))) := (kT_286 310).trans rfl
set_option maxRecDepth 100000 in
theorem r_286_312 : xT.1 286 312 = some (.iconst 1, ((0, 0), ([.int 1], []))) := (kT_286 312).trans rfl
set_option maxRecDepth 100000 in
theorem r_286_313 : xT.1 286 313 = some (.iadd, ((0, 0), ([], []))) := (kT_286 313).trans rfl
set_option maxRecDepth 100000 in
theorem r_286_314 : xT.1 286 314 = some (.iaload, ((0, 0), ([], []))) := (kT_286 314).trans rfl
set_option maxRecDepth 100000 in
theorem r_286_315 : xT.1 286 315 = some (.aload_n 3, ((0, 0), ([], []))) := (kT_286 315).trans rfl
set_option maxRecDepth 100000 in
theorem r_286_316 : xT.1 286 316 = some (.invokestatic 173, ((244, 3), ([], [3]))) := (kT_286 316).trans rfl
set_option maxRecDepth 100000 in
theorem r_286_319 : xT.1 286 319 = some (.istore 6, ((0, 0), ([], []))) := (kT_286 319).trans rfl
set_option maxRecDepth 100000 in
theorem r_286_321 : xT.1 286 321 = some (.aload_n 2, ((0, 0), ([], []))) := (kT_286 321).trans rfl
set_option maxRecDepth 100000 in
theorem r_286_322 : xT.1 286 322 = some (.aload_n 0, ((0, 0), ([], []))) := (kT_286 322).trans rfl
set_option maxRecDepth 100000 in
theorem r_286_323 : xT.1 286 323 = some (.iload 5, ((0, 0), ([], []))) := (kT_286 323).trans rfl
set_option maxRecDepth 100000 in
theorem r_286_325 : xT.1 286 325 = some (.iconst 1, ((0, 0), ([.int 1], []))) := (kT_286 325).trans rfl
set_option maxRecDepth 100000 in
theorem r_286_326 : xT.1 286 326 = some (.iadd, ((0, 0), ([], []))) := (kT_286 326).trans rfl
set_option maxRecDepth 100000 in
theorem r_286_327 : xT.1 286 327 = some (.iaload, ((0, 0), ([], []))) := (kT_286 327).trans rfl
set_option maxRecDepth 100000 in
theorem r_286_328 : xT.1 286 328 = some (.invokevirtual 176, ((164, 2), ([], [0]))) := (kT_286 328).trans rfl
set_option maxRecDepth 100000 in
theorem r_286_331 : xT.1 286 331 = some (.istore 7, ((0, 0), ([], []))) := (kT_286 331).trans rfl
set_option maxRecDepth 100000 in
theorem r_286_333 : xT.1 286 333 = some (.aload_n 2, ((0, 0), ([], []))) := (kT_286 333).trans rfl
set_option maxRecDepth 100000 in
theorem r_286_334 : xT.1 286 334 = some (.invokevirtual 170, ((149, 1), ([], [0]))) := (kT_286 334).trans rfl
set_option maxRecDepth 100000 in
theorem r_286_337 : xT.1 286 337 = some (.iload 6, ((0, 0), ([], []))) := (kT_286 337).trans rfl
set_option maxRecDepth 100000 in
theorem r_286_339 : xT.1 286 339 = some (.if_icmp .eq 5, ((344, 0), ([], []))) := (kT_286 339).trans rfl
set_option maxRecDepth 100000 in
theorem r_286_342 : xT.1 286 342 = some (.iconst 0, ((0, 0), ([.int 0], []))) := (kT_286 342).trans rfl
set_option maxRecDepth 100000 in
theorem r_286_343 : xT.1 286 343 = some (.ireturn, ((0, 0), ([], []))) := (kT_286 343).trans rfl
set_option maxRecDepth 100000 in
theorem r_286_344 : xT.1 286 344 = some (.iload 6, ((0, 0), ([], []))) := (kT_286 344).trans rfl
set_option maxRecDepth 100000 in
theorem r_286_346 : xT.1 286 346 = some (.ifCond .ne 15, ((361, 0), ([], []))) := (kT_286 346).trans rfl
set_option maxRecDepth 100000 in
theorem r_286_349 : xT.1 286 349 = some (.aload_n 3, ((0, 0), ([], []))) := (kT_286 349).trans rfl
set_option maxRecDepth 100000 in
theorem r_286_350 : xT.1 286 350 = some (.iconst 0, ((0, 0), ([.int 0], []))) := (kT_286 350).trans rfl
set_option maxRecDepth 100000 in
theorem r_286_351 : xT.1 286 351 = some (.laload, ((0, 0), ([], []))) := (kT_286 351).trans rfl
set_option maxRecDepth 100000 in
theorem r_286_352 : xT.1 286 352 = some (.iload 7, ((0, 0), ([], []))) := (kT_286 352).trans rfl
set_option maxRecDepth 100000 in
theorem r_286_354 : xT.1 286 354 = some (.i2l, ((0, 0), ([], []))) := (kT_286 354).trans rfl
set_option maxRecDepth 100000 in
theorem r_286_355 : xT.1 286 355 = some (.lcmp, ((0, 0), ([], []))) := (kT_286 355).trans rfl
set_option maxRecDepth 100000 in
theorem r_286_356 : xT.1 286 356 = some (.ifCond .eq 5, ((361, 0), ([], []))) := (kT_286 356).trans rfl
set_option maxRecDepth 100000 in
theorem r_286_359 : xT.1 286 359 = some (.iconst 0, ((0, 0), ([.int 0], []))) := (kT_286 359).trans rfl
set_option maxRecDepth 100000 in
theorem r_286_360 : xT.1 286 360 = some (.ireturn, ((0, 0), ([], []))) := (kT_286 360).trans rfl
set_option maxRecDepth 100000 in
theorem r_286_361 : xT.1 286 361 = some (.goto 2536, ((2897, 0), ([], []))) := (kT_286 361).trans rfl
set_option maxRecDepth 100000 in
theorem r_286_364 : xT.1 286 364 = some (.aload_n 1, ((0, 0), ([], []))) := (kT_286 364).trans rfl
set_option maxRecDepth 100000 in
theorem r_286_365 : xT.1 286 365 = some (.aload_n 0, ((0, 0), ([], []))) := (kT_286 365).trans rfl
set_option maxRecDepth 100000 in
theorem r_286_366 : xT.1 286 366 = some (.iload 5, ((0, 0), ([], []))) := (kT_286 366).trans rfl
set_option maxRecDepth 100000 in
theorem r_286_368 : xT.1 286 368 = some (.iconst 1, ((0, 0), ([.int 1], []))) := (kT_286 368).trans rfl
set_option maxRecDepth 100000 in
theorem r_286_369 : xT.1 286 369 = some (.iadd, ((0, 0), ([], []))) := (kT_286 369).trans rfl
set_option maxRecDepth 100000 in
theorem r_286_370 : xT.1 286 370 = some (.iaload, ((0, 0), ([], []))) := (kT_286 370).trans rfl
set_option maxRecDepth 100000 in
theorem r_286_371 : xT.1 286 371 = some (.aload_n 0, ((0, 0), ([], []))) := (kT_286 371).trans rfl
set_option maxRecDepth 100000 in
theorem r_286_372 : xT.1 286 372 = some (.iload 5, ((0, 0), ([], []))) := (kT_286 372).trans rfl
set_option maxRecDepth 100000 in
theorem r_286_374 : xT.1 286 374 = some (.iconst 2, ((0, 0), ([.int 2], []))) := (kT_286 374).trans rfl
set_option maxRecDepth 100000 in
theorem r_286_375 : xT.1 286 375 = some (.iadd, ((0, 0), ([], []))) := (kT_286 375).trans rfl
set_option maxRecDepth 100000 in
theorem r_286_376 : xT.1 286 376 = some (.iaload, ((0, 0), ([], []))) := (kT_286 376).trans rfl
set_option maxRecDepth 100000 in
theorem r_286_377 : xT.1 286 377 = some (.aload_n 0, ((0, 0), ([], []))) := (kT_286 377).trans rfl
set_option maxRecDepth 100000 in
theorem r_286_378 : xT.1 286 378 = some (.iload 5, ((0, 0), ([], []))) := (kT_286 378).trans rfl
set_option maxRecDepth 100000 in
theorem r_286_380 : xT.1 286 380 = some (.iconst 3, ((0, 0), ([.int 3], []))) := (kT_286 380).trans rfl
set_option maxRecDepth 100000 in
theorem r_286_381 : xT.1 286 381 = some (.iadd, ((0, 0), ([], []))) := (kT_286 381).trans rfl
set_option maxRecDepth 100000 in
theorem r_286_382 : xT.1 286 382 = some (.iaload, ((0, 0), ([], []))) := (kT_286 382).trans rfl
set_option maxRecDepth 100000 in
theorem r_286_383 : xT.1 286 383 = some (.aload_n 0, ((0, 0), ([], []))) := (kT_286 383).trans rfl
set_option maxRecDepth 100000 in
theorem r_286_384 : xT.1 286 384 = some (.iload 5, ((0, 0), ([], []))) := (kT_286 384).trans rfl
set_option maxRecDepth 100000 in
theorem r_286_386 : xT.1 286 386 = some (.iconst 4, ((0, 0), ([.int 4], []))) := (kT_286 386).trans rfl
set_option maxRecDepth 100000 in
theorem r_286_387 : xT.1 286 387 = some (.iadd, ((0, 0), ([], []))) := (kT_286 387).trans rfl
set_option maxRecDepth 100000 in
theorem r_286_388 : xT.1 286 388 = some (.iaload, ((0, 0), ([], []))) := (kT_286 388).trans rfl
set_option maxRecDepth 100000 in
theorem r_286_389 : xT.1 286 389 = some (.aload_n 0, ((0, 0), ([], []))) := (kT_286 389).trans rfl
set_option maxRecDepth 100000 in
theorem r_286_390 : xT.1 286 390 = some (.iload 5, ((0, 0), ([], []))) := (kT_286 390).trans rfl
set_option maxRecDepth 100000 in
theorem r_286_392 : xT.1 286 392 = some (.iconst 5, ((0, 0), ([.int 5], []))) := (kT_286 392).trans rfl
set_option maxRecDepth 100000 in
theorem r_286_393 : xT.1 286 393 = some (.iadd, ((0, 0), ([], []))) := (kT_286 393).trans rfl
set_option maxRecDepth 100000 in
theorem r_286_394 : xT.1 286 394 = some (.iaload, ((0, 0), ([], []))) := (kT_286 394).trans rfl
set_option maxRecDepth 100000 in
theorem r_286_395 : xT.1 286 395 = some (.aload_n 0, ((0, 0), ([], []))) := (kT_286 395).trans rfl
set_option maxRecDepth 100000 in
theorem r_286_396 : xT.1 286 396 = some (.iload 5, ((0, 0), ([], []))) := (kT_286 396).trans rfl
set_option maxRecDepth 100000 in
theorem r_286_398 : xT.1 286 398 = some (.bipush 6, ((0, 0), ([.int 6], []))) := (kT_286 398).trans rfl
set_option maxRecDepth 100000 in
theorem r_286_400 : xT.1 286 400 = some (.iadd, ((0, 0), ([], []))) := (kT_286 400).trans rfl
set_option maxRecDepth 100000 in
theorem r_286_401 : xT.1 286 401 = some (.iaload, ((0, 0), ([], []))) := (kT_286 401).trans rfl
set_option maxRecDepth 100000 in
theorem r_286_402 : xT.1 286 402 = some (.aload_n 3, ((0, 0), ([], []))) := (kT_286 402).trans rfl
set_option maxRecDepth 100000 in
theorem r_286_403 : xT.1 286 403 = some (.invokestatic 177, ((245, 8), ([], [3]))) := (kT_286 403).trans rfl
set_option maxRecDepth 100000 in
theorem r_286_406 : xT.1 286 406 = some (.istore 6, ((0, 0), ([], []))) := (kT_286 406).trans rfl
set_option maxRecDepth 100000 in
theorem r_286_408 : xT.1 286 408 = some (.aload_n 2, ((0, 0), ([], []))) := (kT_286 408).trans rfl
set_option maxRecDepth 100000 in
theorem r_286_409 : xT.1 286 409 = some (.aload_n 0, ((0, 0), ([], []))) := (kT_286 409).trans rfl
set_option maxRecDepth 100000 in
theorem r_286_410 : xT.1 286 410 = some (.iload 5, ((0, 0), ([], []))) := (kT_286 410).trans rfl
set_option maxRecDepth 100000 in
theorem r_286_412 : xT.1 286 412 = some (.iconst 1, ((0, 0), ([.int 1], []))) := (kT_286 412).trans rfl
set_option maxRecDepth 100000 in
theorem r_286_413 : xT.1 286 413 = some (.iadd, ((0, 0), ([], []))) := (kT_286 413).trans rfl
set_option maxRecDepth 100000 in
theorem r_286_414 : xT.1 286 414 = some (.iaload, ((0, 0), ([], []))) := (kT_286 414).trans rfl
set_option maxRecDepth 100000 in
theorem r_286_415 : xT.1 286 415 = some (.aload_n 0, ((0, 0), ([], []))) := (kT_286 415).trans rfl
set_option maxRecDepth 100000 in
theorem r_286_416 : xT.1 286 416 = some (.iload 5, ((0, 0), ([], []))) := (kT_286 416).trans rfl
set_option maxRecDepth 100000 in
theorem r_286_418 : xT.1 286 418 = some (.iconst 2, ((0, 0), ([.int 2], []))) := (kT_286 418).trans rfl
set_option maxRecDepth 100000 in
theorem r_286_419 : xT.1 286 419 = some (.iadd, ((0, 0), ([], []))) := (kT_286 419).trans rfl
set_option maxRecDepth 100000 in
theorem r_286_420 : xT.1 286 420 = some (.iaload, ((0, 0), ([], []))) := (kT_286 420).trans rfl
set_option maxRecDepth 100000 in
theorem r_286_421 : xT.1 286 421 = some (.aload_n 0, ((0, 0), ([], []))) := (kT_286 421).trans rfl
set_option maxRecDepth 100000 in
theorem r_286_422 : xT.1 286 422 = some (.iload 5, ((0, 0), ([], []))) := (kT_286 422).trans rfl
set_option maxRecDepth 100000 in
theorem r_286_424 : xT.1 286 424 = some (.iconst 3, ((0, 0), ([.int 3], []))) := (kT_286 424).trans rfl
set_option maxRecDepth 100000 in
theorem r_286_425 : xT.1 286 425 = some (.iadd, ((0, 0), ([], []))) := (kT_286 425).trans rfl
set_option maxRecDepth 100000 in
theorem r_286_426 : xT.1 286 426 = some (.iaload, ((0, 0), ([], []))) := (kT_286 426).trans rfl
set_option maxRecDepth 100000 in
theorem r_286_427 : xT.1 286 427 = some (.aload_n 0, ((0, 0), ([], []))) := (kT_286 427).trans rfl
set_option maxRecDepth 100000 in
theorem r_286_428 : xT.1 286 428 = some (.iload 5, ((0, 0), ([], []))) := (kT_286 428).trans rfl
set_option maxRecDepth 100000 in
theorem r_286_430 : xT.1 286 430 = some (.iconst 4, ((0, 0), ([.int 4], []))) := (kT_286 430).trans rfl
set_option maxRecDepth 100000 in
theorem r_286_431 : xT.1 286 431 = some (.iadd, ((0, 0), ([], []))) := (kT_286 431).trans rfl
set_option maxRecDepth 100000 in
theorem r_286_432 : xT.1 286 432 = some (.iaload, ((0, 0), ([], []))) := (kT_286 432).trans rfl
set_option maxRecDepth 100000 in
theorem r_286_433 : xT.1 286 433 = some (.aload_n 0, ((0, 0), ([], []))) := (kT_286 433).trans rfl
set_option maxRecDepth 100000 in
theorem r_286_434 : xT.1 286 434 = some (.iload 5, ((0, 0), ([], []))) := (kT_286 434).trans rfl
set_option maxRecDepth 100000 in
theorem r_286_436 : xT.1 286 436 = some (.iconst 5, ((0, 0), ([.int 5], []))) := (kT_286 436).trans rfl
set_option maxRecDepth 100000 in
theorem r_286_437 : xT.1 286 437 = some (.iadd, ((0, 0), ([], []))) := (kT_286 437).trans rfl
set_option maxRecDepth 100000 in
theorem r_286_438 : xT.1 286 438 = some (.iaload, ((0, 0), ([], []))) := (kT_286 438).trans rfl
set_option maxRecDepth 100000 in
theorem r_286_439 : xT.1 286 439 = some (.aload_n 0, ((0, 0), ([], []))) := (kT_286 439).trans rfl
set_option maxRecDepth 100000 in
theorem r_286_440 : xT.1 286 440 = some (.iload 5, ((0, 0), ([], []))) := (kT_286 440).trans rfl
set_option maxRecDepth 100000 in
theorem r_286_442 : xT.1 286 442 = some (.bipush 6, ((0, 0), ([.int 6], []))) := (kT_286 442).trans rfl
set_option maxRecDepth 100000 in
theorem r_286_444 : xT.1 286 444 = some (.iadd, ((0, 0), ([], []))) := (kT_286 444).trans rfl
set_option maxRecDepth 100000 in
theorem r_286_445 : xT.1 286 445 = some (.iaload, ((0, 0), ([], []))) := (kT_286 445).trans rfl
set_option maxRecDepth 100000 in
theorem r_286_446 : xT.1 286 446 = some (.invokevirtual 180, ((167, 7), ([], [0]))) := (kT_286 446).trans rfl
set_option maxRecDepth 100000 in
theorem r_286_449 : xT.1 286 449 = some (.istore 7, ((0, 0), ([], []))) := (kT_286 449).trans rfl
set_option maxRecDepth 100000 in
theorem r_286_451 : xT.1 286 451 = some (.aload_n 2, ((0, 0), ([], []))) := (kT_286 451).trans rfl
set_option maxRecDepth 100000 in
theorem r_286_452 : xT.1 286 452 = some (.invokevirtual 170, ((149, 1), ([], [0]))) := (kT_286 452).trans rfl
set_option maxRecDepth 100000 in
theorem r_286_455 : xT.1 286 455 = some (.iload 6, ((0, 0), ([], []))) := (kT_286 455).trans rfl
set_option maxRecDepth 100000 in
theorem r_286_457 : xT.1 286 457 = some (.if_icmp .eq 5, ((462, 0), ([], []))) := (kT_286 457).trans rfl
set_option maxRecDepth 100000 in
theorem r_286_460 : xT.1 286 460 = some (.iconst 0, ((0, 0), ([.int 0], []))) := (kT_286 460).trans rfl
set_option maxRecDepth 100000 in
theorem r_286_461 : xT.1 286 461 = some (.ireturn, ((0, 0), ([], []))) := (kT_286 461).trans rfl
set_option maxRecDepth 100000 in
theorem r_286_462 : xT.1 286 462 = some (.iload 6, ((0, 0), ([], []))) := (kT_286 462).trans rfl
set_option maxRecDepth 100000 in
theorem r_286_464 : xT.1 286 464 = some (.ifCond .ne 15, ((479, 0), ([], []))) := (kT_286 464).trans rfl
set_option maxRecDepth 100000 in
theorem r_286_467 : xT.1 286 467 = some (.aload_n 3, ((0, 0), ([], []))) := (kT_286 467).trans rfl
set_option maxRecDepth 100000 in
theorem r_286_468 : xT.1 286 468 = some (.iconst 0, ((0, 0), ([.int 0], []))) := (kT_286 468).trans rfl
set_option maxRecDepth 100000 in
theorem r_286_469 : xT.1 286 469 = some (.laload, ((0, 0), ([], []))) := (kT_286 469).trans rfl
set_option maxRecDepth 100000 in
theorem r_286_470 : xT.1 286 470 = some (.iload 7, ((0, 0), ([], []))) := (kT_286 470).trans rfl
set_option maxRecDepth 100000 in
theorem r_286_472 : xT.1 286 472 = some (.i2l, ((0, 0), ([], []))) := (kT_286 472).trans rfl
set_option maxRecDepth 100000 in
theorem r_286_473 : xT.1 286 473 = some (.lcmp, ((0, 0), ([], []))) := (kT_286 473).trans rfl
set_option maxRecDepth 100000 in
theorem r_286_474 : xT.1 286 474 = some (.ifCond .eq 5, ((479, 0), ([], []))) := (kT_286 474).trans rfl
set_option maxRecDepth 100000 in
theorem r_286_477 : xT.1 286 477 = some (.iconst 0, ((0, 0), ([.int 0], []))) := (kT_286 477).trans rfl
set_option maxRecDepth 100000 in
theorem r_286_478 : xT.1 286 478 = some (.ireturn, ((0, 0), ([], []))) := (kT_286 478).trans rfl
set_option maxRecDepth 100000 in
theorem r_286_479 : xT.1 286 479 = some (.goto 2418, ((2897, 0), ([], []))) := (kT_286 479).trans rfl
set_option maxRecDepth 100000 in
theorem r_286_482 : xT.1 286 482 = some (.aload_n 1, ((0, 0), ([], []))) := (kT_286 482).trans rfl
set_option maxRecDepth 100000 in
theorem r_286_483 : xT.1 286 483 = some (.aload_n 0, ((0, 0), ([], []))) := (kT_286 483).trans rfl
set_option maxRecDepth 100000 in
theorem r_286_484 : xT.1 286 484 = some (.iload 5, ((0, 0), ([], []))) := (kT_286 484).trans rfl
set_option maxRecDepth 100000 in
theorem r_286_486 : xT.1 286 486 = some (.iconst 1, ((0, 0), ([.int 1], []))) := (kT_286 486).trans rfl
set_option maxRecDepth 100000 in
theorem r_286_487 : xT.1 286 487 = some (.iadd, ((0, 0), ([], []))) := (kT_286 487).trans rfl
set_option maxRecDepth 100000 in
theorem r_286_488 : xT.1 286 488 = some (.iaload, ((0, 0), ([], []))) := (kT_286 488).trans rfl
set_option maxRecDepth 100000 in
theorem r_286_489 : xT.1 286 489 = some (.aload_n 3, ((0, 0), ([], []))) := (kT_286 489).trans rfl
set_option maxRecDepth 100000 in
theorem r_286_490 : xT.1 286 490 = some (.invokestatic 181, ((246, 3), ([], [3]))) := (kT_286 490).trans rfl
set_option maxRecDepth 100000 in
theorem r_286_493 : xT.1 286 493 = some (.istore 6, ((0, 0), ([], []))) := (kT_286 493).trans rfl
set_option maxRecDepth 100000 in
theorem r_286_495 : xT.1 286 495 = some (.aload_n 2, ((0, 0), ([], []))) := (kT_286 495).trans rfl
set_option maxRecDepth 100000 in
theorem r_286_496 : xT.1 286 496 = some (.aload_n 0, ((0, 0), ([], []))) := (kT_286 496).trans rfl
set_option maxRecDepth 100000 in
theorem r_286_497 : xT.1 286 497 = some (.iload 5, ((0, 0), ([], []))) := (kT_286 497).trans rfl
set_option maxRecDepth 100000 in
theorem r_286_499 : xT.1 286 499 = some (.iconst 1, ((0, 0), ([.int 1], []))) := (kT_286 499).trans rfl
set_option maxRecDepth 100000 in
theorem r_286_500 : xT.1 286 500 = some (.iadd, ((0, 0), ([], []))) := (kT_286 500).trans rfl
set_option maxRecDepth 100000 in
theorem r_286_501 : xT.1 286 501 = some (.iaload, ((0, 0), ([], []))) := (kT_286 501).trans rfl
set_option maxRecDepth 100000 in
theorem r_286_502 : xT.1 286 502 = some (.invokevirtual 183, ((173, 2), ([], [0]))) := (kT_286 502).trans rfl
set_option maxRecDepth 100000 in
theorem r_286_505 : xT.1 286 505 = some (.istore 7, ((0, 0), ([], []))) := (kT_286 505).trans rfl
set_option maxRecDepth 100000 in
theorem r_286_507 : xT.1 286 507 = some (.aload_n 2, ((0, 0), ([], []))) := (kT_286 507).trans rfl
set_option maxRecDepth 100000 in
theorem r_286_508 : xT.1 286 508 = some (.invokevirtual 170, ((149, 1), ([], [0]))) := (kT_286 508).trans rfl
set_option maxRecDepth 100000 in
theorem r_286_511 : xT.1 286 511 = some (.iload 6, ((0, 0), ([], []))) := (kT_286 511).trans rfl
set_option maxRecDepth 100000 in
theorem r_286_513 : xT.1 286 513 = some (.if_icmp .eq 5, ((518, 0), ([], []))) := (kT_286 513).trans rfl
set_option maxRecDepth 100000 in
theorem r_286_516 : xT.1 286 516 = some (.iconst 0, ((0, 0), ([.int 0], []))) := (kT_286 516).trans rfl
set_option maxRecDepth 100000 in
theorem r_286_517 : xT.1 286 517 = some (.ireturn, ((0, 0), ([], []))) := (kT_286 517).trans rfl
set_option maxRecDepth 100000 in
theorem r_286_518 : xT.1 286 518 = some (.iload 6, ((0, 0), ([], []))) := (kT_286 518).trans rfl
set_option maxRecDepth 100000 in
theorem r_286_520 : xT.1 286 520 = some (.ifCond .ne 15, ((535, 0), ([], []))) := (kT_286 520).trans rfl
set_option maxRecDepth 100000 in
theorem r_286_523 : xT.1 286 523 = some (.aload_n 3, ((0, 0), ([], []))) := (kT_286 523).trans rfl
set_option maxRecDepth 100000 in
theorem r_286_524 : xT.1 286 524 = some (.iconst 0, ((0, 0), ([.int 0], []))) := (kT_286 524).trans rfl
set_option maxRecDepth 100000 in
theorem r_286_525 : xT.1 286 525 = some (.laload, ((0, 0), ([], []))) := (kT_286 525).trans rfl
set_option maxRecDepth 100000 in
theorem r_286_526 : xT.1 286 526 = some (.iload 7, ((0, 0), ([], []))) := (kT_286 526).trans rfl
set_option maxRecDepth 100000 in
theorem r_286_528 : xT.1 286 528 = some (.i2l, ((0, 0), ([], []))) := (kT_286 528).trans rfl
set_option maxRecDepth 100000 in
theorem r_286_529 : xT.1 286 529 = some (.lcmp, ((0, 0), ([], []))) := (kT_286 529).trans rfl
set_option maxRecDepth 100000 in
theorem r_286_530 : xT.1 286 530 = some (.ifCond .eq 5, ((535, 0), ([], []))) := (kT_286 530).trans rfl
set_option maxRecDepth 100000 in
theorem r_286_533 : xT.1 286 533 = some (.iconst 0, ((0, 0), ([.int 0], []))) := (kT_286 533).trans rfl
set_option maxRecDepth 100000 in
theorem r_286_534 : xT.1 286 534 = some (.ireturn, ((0, 0), ([], []))) := (kT_286 534).trans rfl
set_option maxRecDepth 100000 in
theorem r_286_535 : xT.1 286 535 = some (.goto 2362, ((2897, 0), ([], []))) := (kT_286 535).trans rfl
set_option maxRecDepth 100000 in
theorem r_286_538 : xT.1 286 538 = some (.aload_n 1, ((0, 0), ([], []))) := (kT_286 538).trans rfl
set_option maxRecDepth 100000 in
theorem r_286_539 : xT.1 286 539 = some (.aload_n 3, ((0, 0), ([], []))) := (kT_286 539).trans rfl
set_option maxRecDepth 100000 in
theorem r_286_540 : xT.1 286 540 = some (.invokestatic 184, ((247, 2), ([], [3]))) := (kT_286 540).trans rfl
set_option maxRecDepth 100000 in
theorem r_286_543 : xT.1 286 543 = some (.istore 6, ((0, 0), ([], []))) := (kT_286 543).trans rfl
set_option maxRecDepth 100000 in
theorem r_286_545 : xT.1 286 545 = some (.aload_n 2, ((0, 0), ([], []))) := (kT_286 545).trans rfl
set_option maxRecDepth 100000 in
theorem r_286_546 : xT.1 286 546 = some (.invokevirtual 186, ((175, 1), ([], [0]))) := (kT_286 546).trans rfl
set_option maxRecDepth 100000 in
theorem r_286_549 : xT.1 286 549 = some (.istore 7, ((0, 0), ([], []))) := (kT_286 549).trans rfl
set_option maxRecDepth 100000 in
theorem r_286_551 : xT.1 286 551 = some (.aload_n 2, ((0, 0), ([], []))) := (kT_286 551).trans rfl
set_option maxRecDepth 100000 in
theorem r_286_552 : xT.1 286 552 = some (.invokevirtual 170, ((149, 1), ([], [0]))) := (kT_286 552).trans rfl
set_option maxRecDepth 100000 in
theorem r_286_555 : xT.1 286 555 = some (.iload 6, ((0, 0), ([], []))) := (kT_286 555).trans rfl
set_option maxRecDepth 100000 in
theorem r_286_557 : xT.1 286 557 = some (.if_icmp .eq 5, ((562, 0), ([], []))) := (kT_286 557).trans rfl
set_option maxRecDepth 100000 in
theorem r_286_560 : xT.1 286 560 = some (.iconst 0, ((0, 0), ([.int 0], []))) := (kT_286 560).trans rfl
set_option maxRecDepth 100000 in
theorem r_286_561 : xT.1 286 561 = some (.ireturn, ((0, 0), ([], []))) := (kT_286 561).trans rfl
set_option maxRecDepth 100000 in
theorem r_286_562 : xT.1 286 562 = some (.iload 6, ((0, 0), ([], []))) := (kT_286 562).trans rfl
set_option maxRecDepth 100000 in
theorem r_286_564 : xT.1 286 564 = some (.ifCond .ne 15, ((579, 0), ([], []))) := (kT_286 564).trans rfl
set_option maxRecDepth 100000 in
theorem r_286_567 : xT.1 286 567 = some (.aload_n 3, ((0, 0), ([], []))) := (kT_286 567).trans rfl
set_option maxRecDepth 100000 in
theorem r_286_568 : xT.1 286 568 = some (.iconst 0, ((0, 0), ([.int 0], []))) := (kT_286 568).trans rfl
set_option maxRecDepth 100000 in
theorem r_286_569 : xT.1 286 569 = some (.laload, ((0, 0), ([], []))) := (kT_286 569).trans rfl
set_option maxRecDepth 100000 in
theorem r_286_570 : xT.1 286 570 = some (.iload 7, ((0, 0), ([], []))) := (kT_286 570).trans rfl
set_option maxRecDepth 100000 in
theorem r_286_572 : xT.1 286 572 = some (.i2l, ((0, 0), ([], []))) := (kT_286 572).trans rfl
set_option maxRecDepth 100000 in
theorem r_286_573 : xT.1 286 573 = some (.lcmp, ((0, 0), ([], []))) := (kT_286 573).trans rfl
set_option maxRecDepth 100000 in
theorem r_286_574 : xT.1 286 574 = some (.ifCond .eq 5, ((579, 0), ([], []))) := (kT_286 574).trans rfl
set_option maxRecDepth 100000 in
theorem r_286_577 : xT.1 286 577 = some (.iconst 0, ((0, 0), ([.int 0], []))) := (kT_286 577).trans rfl
set_option maxRecDepth 100000 in
theorem r_286_578 : xT.1 286 578 = some (.ireturn, ((0, 0), ([], []))) := (kT_286 578).trans rfl
set_option maxRecDepth 100000 in
theorem r_286_579 : xT.1 286 579 = some (.goto 2318, ((2897, 0), ([], []))) := (kT_286 579).trans rfl
set_option maxRecDepth 100000 in
theorem r_286_582 : xT.1 286 582 = some (.aload_n 1, ((0, 0), ([], []))) := (kT_286 582).trans rfl
set_option maxRecDepth 100000 in
theorem r_286_583 : xT.1 286 583 = some (.aload_n 0, ((0, 0), ([], []))) := (kT_286 583).trans rfl
set_option maxRecDepth 100000 in
theorem r_286_584 : xT.1 286 584 = some (.iload 5, ((0, 0), ([], []))) := (kT_286 584).trans rfl
set_option maxRecDepth 100000 in
theorem r_286_586 : xT.1 286 586 = some (.iconst 1, ((0, 0), ([.int 1], []))) := (kT_286 586).trans rfl
set_option maxRecDepth 100000 in
theorem r_286_587 : xT.1 286 587 = some (.iadd, ((0, 0), ([], []))) := (kT_286 587).trans rfl
set_option maxRecDepth 100000 in
theorem r_286_588 : xT.1 286 588 = some (.iaload, ((0, 0), ([], []))) := (kT_286 588).trans rfl
set_option maxRecDepth 100000 in
theorem r_286_589 : xT.1 286 589 = some (.aload_n 3, ((0, 0), ([], []))) := (kT_286 589).trans rfl
set_option maxRecDepth 100000 in
theorem r_286_590 : xT.1 286 590 = some (.invokestatic 187, ((248, 3), ([], [3]))) := (kT_286 590).trans rfl
set_option maxRecDepth 100000 in
theorem r_286_593 : xT.1 286 593 = some (.istore 6, ((0, 0), ([], []))) := (kT_286 593).trans rfl
set_option maxRecDepth 100000 in
theorem r_286_595 : xT.1 286 595 = some (.aload_n 2, ((0, 0), ([], []))) := (kT_286 595).trans rfl
set_option maxRecDepth 100000 in
theorem r_286_596 : xT.1 286 596 = some (.aload_n 0, ((0, 0), ([], []))) := (kT_286 596).trans rfl
set_option maxRecDepth 100000 in
theorem r_286_597 : xT.1 286 597 = some (.iload 5, ((0, 0), ([], []))) := (kT_286 597).trans rfl
set_option maxRecDepth 100000 in
theorem r_286_599 : xT.1 286 599 = some (.iconst 1, ((0, 0), ([.int 1], []))) := (kT_286 599).trans rfl
set_option maxRecDepth 100000 in
theorem r_286_600 : xT.1 286 600 = some (.iadd, ((0, 0), ([], []))) := (kT_286 600).trans rfl
set_option maxRecDepth 100000 in
theorem r_286_601 : xT.1 286 601 = some (.iaload, ((0, 0), ([], []))) := (kT_286 601).trans rfl
set_option maxRecDepth 100000 in
theorem r_286_602 : xT.1 286 602 = some (.invokevirtual 189, ((178, 2), ([], [0]))) := (kT_286 602).trans rfl
set_option maxRecDepth 100000 in
theorem r_286_605 : xT.1 286 605 = some (.istore 7, ((0, 0), ([], []))) := (kT_286 605).trans rfl
set_option maxRecDepth 100000 in
theorem r_286_607 : xT.1 286 607 = some (.aload_n 2, ((0, 0), ([], []))) := (kT_286 607).trans rfl
set_option maxRecDepth 100000 in
theorem r_286_608 : xT.1 286 608 = some (.invokevirtual 170, ((149, 1), ([], [0]))) := (kT_286 608).trans rfl
set_option maxRecDepth 100000 in
theorem r_286_611 : xT.1 286 611 = some (.iload 6, ((0, 0), ([], []))) := (kT_286 611).trans rfl
set_option maxRecDepth 100000 in
theorem r_286_613 : xT.1 286 613 = some (.if_icmp .eq 5, ((618, 0), ([], []))) := (kT_286 613).trans rfl
set_option maxRecDepth 100000 in
theorem r_286_616 : xT.1 286 616 = some (.iconst 0, ((0, 0), ([.int 0], []))) := (kT_286 616).trans rfl
set_option maxRecDepth 100000 in
theorem r_286_617 : xT.1 286 617 = some (.ireturn, ((0, 0), ([], []))) := (kT_286 617).trans rfl
set_option maxRecDepth 100000 in
theorem r_286_618 : xT.1 286 618 = some (.iload 6, ((0, 0), ([], []))) := (kT_286 618).trans rfl
set_option maxRecDepth 100000 in
theorem r_286_620 : xT.1 286 620 = some (.ifCond .ne 15, ((635, 0), ([], []))) := (kT_286 620).trans rfl
set_option maxRecDepth 100000 in
theorem r_286_623 : xT.1 286 623 = some (.aload_n 3, ((0, 0), ([], []))) := (kT_286 623).trans rfl
set_option maxRecDepth 100000 in
theorem r_286_624 : xT.1 286 624 = some (.iconst 0, ((0, 0), ([.int 0], []))) := (kT_286 624).trans rfl
set_option maxRecDepth 100000 in
theorem r_286_625 : xT.1 286 625 = some (.laload, ((0, 0), ([], []))) := (kT_286 625).trans rfl
set_option maxRecDepth 100000 in
theorem r_286_626 : xT.1 286 626 = some (.iload 7, ((0, 0), ([], []))) := (kT_286 626).trans rfl
set_option maxRecDepth 100000 in
theorem r_286_628 : xT.1 286 628 = some (.i2l, ((0, 0), ([], []))) := (kT_286 628).trans rfl
set_option maxRecDepth 100000 in
theorem r_286_629 : xT.1 286 629 = some (.lcmp, ((0, 0), ([], []))) := (kT_286 629).trans rfl
set_option maxRecDepth 100000 in
theorem r_286_630 : xT.1 286 630 = some (.ifCond .eq 5, ((635, 0), ([], []))) := (kT_286 630).trans rfl
set_option maxRecDepth 100000 in
theorem r_286_633 : xT.1 286 633 = some (.iconst 0, ((0, 0), ([.int 0], []))) := (kT_286 633).trans rfl
set_option maxRecDepth 100000 in
theorem r_286_634 : xT.1 286 634 = some (.ireturn, ((0, 0), ([], []))) := (kT_286 634).trans rfl
set_option maxRecDepth 100000 in
theorem r_286_635 : xT.1 286 635 = some (.goto 2262, ((2897, 0), ([], []))) := (kT_286 635).trans rfl
set_option maxRecDepth 100000 in
theorem r_286_638 : xT.1 286 638 = some (.aload_n 1, ((0, 0), ([], []))) := (kT_286 638).trans rfl
set_option maxRecDepth 100000 in
theorem r_286_639 : xT.1 286 639 = some (.invokevirtual 190, ((90, 1), ([], [0]))) := (kT_286 639).trans rfl
set_option maxRecDepth 100000 in
theorem r_286_642 : xT.1 286 642 = some (.aload_n 2, ((0, 0), ([], []))) := (kT_286 642).trans rfl
set_option maxRecDepth 100000 in
theorem r_286_643 : xT.1 286 643 = some (.invokevirtual 193, ((179, 1), ([], [0]))) := (kT_286 643).trans rfl
set_option maxRecDepth 100000 in
theorem r_286_646 : xT.1 286 646 = some (.if_icmp .eq 2251, ((2897, 0), ([], []))) := (kT_286 646).trans rfl
set_option maxRecDepth 100000 in
theorem r_286_649 : xT.1 286 649 = some (.iconst 0, ((0, 0), ([.int 0], []))) := (kT_286 649).trans rfl
set_option maxRecDepth 100000 in
theorem r_286_650 : xT.1 286 650 = some (.ireturn, ((0, 0), ([], []))) := (kT_286 650).trans rfl
set_option maxRecDepth 100000 in
theorem r_286_651 : xT.1 286 651 = some (.aload_n 1, ((0, 0), ([], []))) := (kT_286 651).trans rfl
set_option maxRecDepth 100000 in
theorem r_286_652 : xT.1 286 652 = some (.aload_n 0, ((0, 0), ([], []))) := (kT_286 652).trans rfl
set_option maxRecDepth 100000 in
theorem r_286_653 : xT.1 286 653 = some (.iload 5, ((0, 0), ([], []))) := (kT_286 653).trans rfl
set_option maxRecDepth 100000 in
theorem r_286_655 : xT.1 286 655 = some (.iconst 1, ((0, 0), ([.int 1], []))) := (kT_286 655).trans rfl
set_option maxRecDepth 100000 in
theorem r_286_656 : xT.1 286 656 = some (.iadd, ((0, 0), ([], []))) := (kT_286 656).trans rfl
set_option maxRecDepth 100000 in
theorem r_286_657 : xT.1 286 657 = some (.iaload, ((0, 0), ([], []))) := (kT_286 657).trans rfl
set_option maxRecDepth 100000 in
theorem r_286_658 : xT.1 286 658 = some (.aload_n 3, ((0, 0), ([], []))) := (kT_286 658).trans rfl
set_option maxRecDepth 100000 in
theorem r_286_659 : xT.1 286 659 = some (.invokestatic 194, ((249, 3), ([], [3]))) := (kT_286 659).trans rfl
set_option maxRecDepth 100000 in
theorem r_286_662 : xT.1 286 662 = some (.istore 6, ((0, 0), ([], []))) := (kT_286 662).trans rfl
set_option maxRecDepth 100000 in
theorem r_286_664 : xT.1 286 664 = some (.aload_n 2, ((0, 0), ([], []))) := (kT_286 664).trans rfl
set_option maxRecDepth 100000 in
theorem r_286_665 : xT.1 286 665 = some (.aload_n 0, ((0, 0), ([], []))) := (kT_286 665).trans rfl
set_option maxRecDepth 100000 in
theorem r_286_666 : xT.1 286 666 = some (.iload 5, ((0, 0), ([], []))) := (kT_286 666).trans rfl
set_option maxRecDepth 100000 in
theorem r_286_668 : xT.1 286 668 = some (.iconst 1, ((0, 0), ([.int 1], []))) := (kT_286 668).trans rfl
set_option maxRecDepth 100000 in
theorem r_286_669 : xT.1 286 669 = some (.iadd, ((0, 0), ([], []))) := (kT_286 669).trans rfl
set_option maxRecDepth 100000 in
theorem r_286_670 : xT.1 286 670 = some (.iaload, ((0, 0), ([], []))) := (kT_286 670).trans rfl
set_option maxRecDepth 100000 in
theorem r_286_671 : xT.1 286 671 = some (.invokevirtual 196, ((180, 2), ([], [0]))) := (kT_286 671).trans rfl
set_option maxRecDepth 100000 in
theorem r_286_674 : xT.1 286 674 = some (.istore 7, ((0, 0), ([], []))) := (kT_286 674).trans rfl
set_option maxRecDepth 100000 in
theorem r_286_676 : xT.1 286 676 = some (.aload_n 2, ((0, 0), ([], []))) := (kT_286 676).trans rfl
set_option maxRecDepth 100000 in
theorem r_286_677 : xT.1 286 677 = some (.invokevirtual 170, ((149, 1), ([], [0]))) := (kT_286 677).trans rfl
set_option maxRecDepth 100000 in
theorem r_286_680 : xT.1 286 680 = some (.iload 6, ((0, 0), ([], []))) := (kT_286 680).trans rfl
set_option maxRecDepth 100000 in
theorem r_286_682 : xT.1 286 682 = some (.if_icmp .eq 5, ((687, 0), ([], []))) := (kT_286 682).trans rfl
set_option maxRecDepth 100000 in
theorem r_286_685 : xT.1 286 685 = some (.iconst 0, ((0, 0), ([.int 0], []))) := (kT_286 685).trans rfl
set_option maxRecDepth 100000 in
theorem r_286_686 : xT.1 286 686 = some (.ireturn, ((0, 0), ([], []))) := (kT_286 686).trans rfl
set_option maxRecDepth 100000 in
theorem r_286_687 : xT.1 286 687 = some (.iload 6, ((0, 0), ([], []))) := (kT_286 687).trans rfl
set_option maxRecDepth 100000 in
theorem r_286_689 : xT.1 286 689 = some (.ifCond .ne 15, ((704, 0), ([], []))) := (kT_286 689).trans rfl
set_option maxRecDepth 100000 in
theorem r_286_692 : xT.1 286 692 = some (.aload_n 3, ((0, 0), ([], []))) := (kT_286 692).trans rfl
set_option maxRecDepth 100000 in
theorem r_286_693 : xT.1 286 693 = some (.iconst 0, ((0, 0), ([.int 0], []))) := (kT_286 693).trans rfl
set_option maxRecDepth 100000 in
theorem r_286_694 : xT.1 286 694 = some (.laload, ((0, 0), ([], []))) := (kT_286 694).trans rfl
set_option maxRecDepth 100000 in
theorem r_286_695 : xT.1 286 695 = some (.iload 7, ((0, 0), ([], []))) := (kT_286 695).trans rfl
set_option maxRecDepth 100000 in
theorem r_286_697 : xT.1 286 697 = some (.i2l, ((0, 0), ([], []))) := (kT_286 697).trans rfl
set_option maxRecDepth 100000 in
theorem r_286_698 : xT.1 286 698 = some (.lcmp, ((0, 0), ([], []))) := (kT_286 698).trans rfl
set_option maxRecDepth 100000 in
theorem r_286_699 : xT.1 286 699 = some (.ifCond .eq 5, ((704, 0), ([], []))) := (kT_286 699).trans rfl
set_option maxRecDepth 100000 in
theorem r_286_702 : xT.1 286 702 = some (.iconst 0, ((0, 0), ([.int 0], []))) := (kT_286 702).trans rfl
set_option maxRecDepth 100000 in
theorem r_286_703 : xT.1 286 703 = some (.ireturn, ((0, 0), ([], []))) := (kT_286 703).trans rfl
set_option maxRecDepth 100000 in
theorem r_286_704 : xT.1 286 704 = some (.goto 2193, ((2897, 0), ([], []))) := (kT_286 704).trans rfl
set_option maxRecDepth 100000 in
theorem r_286_707 : xT.1 286 707 = some (.aload_n 1, ((0, 0), ([], []))) := (kT_286 707).trans rfl
set_option maxRecDepth 100000 in
theorem r_286_708 : xT.1 286 708 = some (.aload_n 0, ((0, 0), ([], []))) := (kT_286 708).trans rfl
set_option maxRecDepth 100000 in
theorem r_286_709 : xT.1 286 709 = some (.iload 5, ((0, 0), ([], []))) := (kT_286 709).trans rfl
set_option maxRecDepth 100000 in
theorem r_286_711 : xT.1 286 711 = some (.iconst 1, ((0, 0), ([.int 1], []))) := (kT_286 711).trans rfl
set_option maxRecDepth 100000 in
theorem r_286_712 : xT.1 286 712 = some (.iadd, ((0, 0), ([], []))) := (kT_286 712).trans rfl
set_option maxRecDepth 100000 in
theorem r_286_713 : xT.1 286 713 = some (.iaload, ((0, 0), ([], []))) := (kT_286 713).trans rfl
set_option maxRecDepth 100000 in
theorem r_286_714 : xT.1 286 714 = some (.aload_n 3, ((0, 0), ([], []))) := (kT_286 714).trans rfl
set_option maxRecDepth 100000 in
theorem r_286_715 : xT.1 286 715 = some (.invokestatic 197, ((250, 3), ([], [3]))) := (kT_286 715).trans rfl
set_option maxRecDepth 100000 in
theorem r_286_718 : xT.1 286 718 = some (.istore 6, ((0, 0), ([], []))) := (kT_286 718).trans rfl
set_option maxRecDepth 100000 in
theorem r_286_720 : xT.1 286 720 = some (.aload_n 2, ((0, 0), ([], []))) := (kT_286 720).trans rfl
set_option maxRecDepth 100000 in
theorem r_286_721 : xT.1 286 721 = some (.aload_n 0, ((0, 0), ([], []))) := (kT_286 721).trans rfl
set_option maxRecDepth 100000 in
theorem r_286_722 : xT.1 286 722 = some (.iload 5, ((0, 0), ([], []))) := (kT_286 722).trans rfl
set_option maxRecDepth 100000 in
theorem r_286_724 : xT.1 286 724 = some (.iconst 1, ((0, 0), ([.int 1], []))) := (kT_286 724).trans rfl
set_option maxRecDepth 100000 in
theorem r_286_725 : xT.1 286 725 = some (.iadd, ((0, 0), ([], []))) := (kT_286 725).trans rfl
set_option maxRecDepth 100000 in
theorem r_286_726 : xT.1 286 726 = some (.iaload, ((0, 0), ([], []))) := (kT_286 726).trans rfl
set_option maxRecDepth 100000 in
theorem r_286_727 : xT.1 286 727 = some (.invokevirtual 199, ((181, 2), ([], [0]))) := (kT_286 727).trans rfl
set_option maxRecDepth 100000 in
theorem r_286_730 : xT.1 286 730 = some (.istore 7, ((0, 0), ([], []))) := (kT_286 730).trans rfl
set_option maxRecDepth 100000 in
theorem r_286_732 : xT.1 286 732 = some (.aload_n 2, ((0, 0), ([], []))) := (kT_286 732).trans rfl
set_option maxRecDepth 100000 in
theorem r_286_733 : xT.1 286 733 = some (.invokevirtual 170, ((149, 1), ([], [0]))) := (kT_286 733).trans rfl
set_option maxRecDepth 100000 in
theorem r_286_736 : xT.1 286 736 = some (.iload 6, ((0, 0), ([], []))) := (kT_286 736).trans rfl
set_option maxRecDepth 100000 in
theorem r_286_738 : xT.1 286 738 = some (.if_icmp .eq 5, ((743, 0), ([], []))) := (kT_286 738).trans rfl
set_option maxRecDepth 100000 in
theorem r_286_741 : xT.1 286 741 = some (.iconst 0, ((0, 0), ([.int 0], []))) := (kT_286 741).trans rfl
set_option maxRecDepth 100000 in
theorem r_286_742 : xT.1 286 742 = some (.ireturn, ((0, 0), ([], []))) := (kT_286 742).trans rfl
set_option maxRecDepth 100000 in
theorem r_286_743 : xT.1 286 743 = some (.iload 6, ((0, 0), ([], []))) := (kT_286 743).trans rfl
set_option maxRecDepth 100000 in
theorem r_286_745 : xT.1 286 745 = some (.ifCond .ne 22, ((767, 0), ([], []))) := (kT_286 745).trans rfl
set_option maxRecDepth 100000 in
theorem r_286_748 : xT.1 286 748 = some (.aload_n 3, ((0, 0), ([], []))) := (kT_286 748).trans rfl
set_option maxRecDepth 100000 in
theorem r_286_749 : xT.1 286 749 = some (.iconst 0, ((0, 0), ([.int 0], []))) := (kT_286 749).trans rfl
set_option maxRecDepth 100000 in
theorem r_286_750 : xT.1 286 750 = some (.laload, ((0, 0), ([], []))) := (kT_286 750).trans rfl
set_option maxRecDepth 100000 in
theorem r_286_751 : xT.1 286 751 = some (.iload 7, ((0, 0), ([], []))) := (kT_286 751).trans rfl
set_option maxRecDepth 100000 in
theorem r_286_753 : xT.1 286 753 = some (.ifCond .eq 7, ((760, 0), ([], []))) := (kT_286 753).trans rfl
set_option maxRecDepth 100000 in
theorem r_286_756 : xT.1 286 756 = some (.lconst 1, ((0, 0), ([.long 1], []))) := (kT_286 756).trans rfl
set_option maxRecDepth 100000 in
theorem r_286_757 : xT.1 286 757 = some (.goto 4, ((761, 0), ([], []))) := (kT_286 757).trans rfl
set_option maxRecDepth 100000 in
theorem r_286_760 : xT.1 286 760 = some (.lconst 0, ((0, 0), ([.long 0], []))) := (kT_286 760).trans rfl
set_option maxRecDepth 100000 in
theorem r_286_761 : xT.1 286 761 = some (.lcmp, ((0, 0), ([], []))) := (kT_286 761).trans rfl
set_option maxRecDepth 100000 in
theorem r_286_762 : xT.1 286 762 = some (.ifCond .eq 5, ((767, 0), ([], []))) := (kT_286 762).trans rfl
set_option maxRecDepth 100000 in
theorem r_286_765 : xT.1 286 765 = some (.iconst 0, ((0, 0), ([.int 0], []))) := (kT_286 765).trans rfl
set_option maxRecDepth 100000 in
theorem r_286_766 : xT.1 286 766 = some (.ireturn, ((0, 0), ([], []))) := (kT_286 766).trans rfl
set_option maxRecDepth 100000 in
theorem r_286_767 : xT.1 286 767 = some (.goto 2130, ((2897, 0), ([], []))) := (kT_286 767).trans rfl
set_option maxRecDepth 100000 in
theorem r_286_770 : xT.1 286 770 = some (.aload_n 1, ((0, 0), ([], []))) := (kT_286 770).trans rfl
set_option maxRecDepth 100000 in
theorem r_286_771 : xT.1 286 771 = some (.invokevirtual 200, ((93, 1), ([], [0]))) := (kT_286 771).trans rfl
set_option maxRecDepth 100000 in
theorem r_286_774 : xT.1 286 774 = some (.aload_n 2, ((0, 0), ([], []))) := (kT_286 774).trans rfl
set_option maxRecDepth 100000 in
theorem r_286_775 : xT.1 286 775 = some (.invokevirtual 203, ((182, 1), ([], [0]))) := (kT_286 775).trans rfl
set_option maxRecDepth 100000 in
theorem r_286_778 : xT.1 286 778 = some (.if_icmp .eq 2119, ((2897, 0), ([], []))) := (kT_286 778).trans rfl
set_option maxRecDepth 100000 in
theorem r_286_781 : xT.1 286 781 = some (.iconst 0, ((0, 0), ([.int 0], []))) := (kT_286 781).trans rfl
set_option maxRecDepth 100000 in
theorem r_286_782 : xT.1 286 782 = some (.ireturn, ((0, 0), ([], []))) := (kT_286 782).trans rfl
set_option maxRecDepth 100000 in
theorem r_286_783 : xT.1 286 783 = some (.aload_n 1, ((0, 0), ([], []))) := (kT_286 783).trans rfl
set_option maxRecDepth 100000 in
theorem r_286_784 : xT.1 286 784 = some (.invokevirtual 204, ((94, 1), ([], [0]))) := (kT_286 784).trans rfl
set_option maxRecDepth 100000 in
theorem r_286_787 : xT.1 286 787 = some (.aload_n 2, ((0, 0), ([], []))) := (kT_286 787).trans rfl
set_option maxRecDepth 100000 in
theorem r_286_788 : xT.1 286 788 = some (.invokevirtual 207, ((183, 1), ([], [0]))) := (kT_286 788).trans rfl
set_option maxRecDepth 100000 in
theorem r_286_791 : xT.1 286 791 = some (.if_icmp .eq 2106, ((2897, 0), ([], []))) := (kT_286 791).trans rfl
set_option maxRecDepth 100000 in
theorem r_286_794 : xT.1 286 794 = some (.iconst 0, ((0, 0), ([.int 0], []))) := (kT_286 794).trans rfl
set_option maxRecDepth 100000 in
theorem r_286_795 : xT.1 286 795 = some (.ireturn, ((0, 0), ([], []))) := (kT_286 795).trans rfl
set_option maxRecDepth 100000 in
theorem r_286_796 : xT.1 286 796 = some (.aload_n 1, ((0, 0), ([], []))) := (kT_286 796).trans rfl
set_option maxRecDepth 100000 in
theorem r_286_797 : xT.1 286 797 = some (.invokevirtual 208, ((95, 1), ([], [0]))) := (kT_286 797).trans rfl
set_option maxRecDepth 100000 in
theorem r_286_800 : xT.1 286 800 = some (.aload_n 2, ((0, 0), ([], []))) := (kT_286 800).trans rfl
set_option maxRecDepth 100000 in
theorem r_286_801 : xT.1 286 801 = some (.invokevirtual 211, ((184, 1), ([], [0]))) := (kT_286 801).trans rfl
set_option maxRecDepth 100000 in
theorem r_286_804 : xT.1 286 804 = some (.if_icmp .eq 2093, ((2897, 0), ([], []))) := (kT_286 804).trans rfl
set_option maxRecDepth 100000 in
theorem r_286_807 : xT.1 286 807 = some (.iconst 0, ((0, 0), ([.int 0], []))) := (kT_286 807).trans rfl
set_option maxRecDepth 100000 in
theorem r_286_808 : xT.1 286 808 = some (.ireturn, ((0, 0), ([], []))) := (kT_286 808).trans rfl
set_option maxRecDepth 100000 in
theorem r_286_809 : xT.1 286 809 = some (.aload_n 1, ((0, 0), ([], []))) := (kT_286 809).trans rfl
set_option maxRecDepth 100000 in
theorem r_286_810 : xT.1 286 810 = some (.aload_n 0, ((0, 0), ([], []))) := (kT_286 810).trans rfl
set_option maxRecDepth 100000 in
theorem r_286_811 : xT.1 286 811 = some (.iload 5, ((0, 0), ([], []))) := (kT_286 811).trans rfl
set_option maxRecDepth 100000 in
theorem r_286_813 : xT.1 286 813 = some (.iconst 1, ((0, 0), ([.int 1], []))) := (kT_286 813).trans rfl
set_option maxRecDepth 100000 in
theorem r_286_814 : xT.1 286 814 = some (.iadd, ((0, 0), ([], []))) := (kT_286 814).trans rfl
set_option maxRecDepth 100000 in
theorem r_286_815 : xT.1 286 815 = some (.iaload, ((0, 0), ([], []))) := (kT_286 815).trans rfl
set_option maxRecDepth 100000 in
theorem r_286_816 : xT.1 286 816 = some (.aload_n 3, ((0, 0), ([], []))) := (kT_286 816).trans rfl
set_option maxRecDepth 100000 in
theorem r_286_817 : xT.1 286 817 = some (.invokestatic 212, ((251, 3), ([], [3]))) := (kT_286 817).trans rfl
set_option maxRecDepth 100000 in
theorem r_286_820 : xT.1 286 820 = some (.istore 6, ((0, 0), ([], []))) := (kT_286 820).trans rfl
set_option maxRecDepth 100000 in
theorem r_286_822 : xT.1 286 822 = some (.aload_n 2, ((0, 0), ([], []))) := (kT_286 822).trans rfl
set_option maxRecDepth 100000 in
theorem r_286_823 : xT.1 286 823 = some (.aload_n 0, ((0, 0), ([], []))) := (kT_286 823).trans rfl
set_option maxRecDepth 100000 in
theorem r_286_824 : xT.1 286 824 = some (.iload 5, ((0, 0), ([], []))) := (kT_286 824).trans rfl
set_option maxRecDepth 100000 in
theorem r_286_826 : xT.1 286 826 = some (.iconst 1, ((0, 0), ([.int 1], []))) := (kT_286 826).trans rfl
set_option maxRecDepth 100000 in
theorem r_286_827 : xT.1 286 827 = some (.iadd, ((0, 0), ([], []))) := (kT_286 827).trans rfl
set_option maxRecDepth 100000 in
theorem r_286_828 : xT.1 286 828 = some (.iaload, ((0, 0), ([], []))) := (kT_286 828).trans rfl
set_option maxRecDepth 100000 in
theorem r_286_829 : xT.1 286 829 = some (.invokevirtual 214, ((185, 2), ([], [0]))) := (kT_286 829).trans rfl
set_option maxRecDepth 100000 in
theorem r_286_832 : xT.1 286 832 = some (.istore 7, ((0, 0), ([], []))) := (kT_286 832).trans rfl
set_option maxRecDepth 100000 in
theorem r_286_834 : xT.1 286 834 = some (.aload_n 2, ((0, 0), ([], []))) := (kT_286 834).trans rfl
set_option maxRecDepth 100000 in
theorem r_286_835 : xT.1 286 835 = some (.invokevirtual 170, ((149, 1), ([], [0]))) := (kT_286 835).trans rfl
set_option maxRecDepth 100000 in
theorem r_286_838 : xT.1 286 838 = some (.iload 6, ((0, 0), ([], []))) := (kT_286 838).trans rfl
set_option maxRecDepth 100000 in
theorem r_286_840 : xT.1 286 840 = some (.if_icmp .eq 5, ((845, 0), ([], []))) := (kT_286 840).trans rfl
set_option maxRecDepth 100000 in
theorem r_286_843 : xT.1 286 843 = some (.iconst 0, ((0, 0), ([.int 0], []))) := (kT_286 843).trans rfl
set_option maxRecDepth 100000 in
theorem r_286_844 : xT.1 286 844 = some (.ireturn, ((0, 0), ([], []))) := (kT_286 844).trans rfl
set_option maxRecDepth 100000 in
theorem r_286_845 : xT.1 286 845 = some (.iload 6, ((0, 0), ([], []))) := (kT_286 845).trans rfl
set_option maxRecDepth 100000 in
theorem r_286_847 : xT.1 286 847 = some (.ifCond .ne 15, ((862, 0), ([], []))) := (kT_286 847).trans rfl
set_option maxRecDepth 100000 in
theorem r_286_850 : xT.1 286 850 = some (.aload_n 3, ((0, 0), ([], []))) := (kT_286 850).trans rfl
set_option maxRecDepth 100000 in
theorem r_286_851 : xT.1 286 851 = some (.iconst 0, ((0, 0), ([.int 0], []))) := (kT_286 851).trans rfl
set_option maxRecDepth 100000 in
theorem r_286_852 : xT.1 286 852 = some (.laload, ((0, 0), ([], []))) := (kT_286 852).trans rfl
set_option maxRecDepth 100000 in
theorem r_286_853 : xT.1 286 853 = some (.iload 7, ((0, 0), ([], []))) := (kT_286 853).trans rfl
set_option maxRecDepth 100000 in
theorem r_286_855 : xT.1 286 855 = some (.i2l, ((0, 0), ([], []))) := (kT_286 855).trans rfl
set_option maxRecDepth 100000 in
theorem r_286_856 : xT.1 286 856 = some (.lcmp, ((0, 0), ([], []))) := (kT_286 856).trans rfl
set_option maxRecDepth 100000 in
theorem r_286_857 : xT.1 286 857 = some (.ifCond .eq 5, ((862, 0), ([], []))) := (kT_286 857).trans rfl
set_option maxRecDepth 100000 in
theorem r_286_860 : xT.1 286 860 = some (.iconst 0, ((0, 0), ([.int 0], []))) := (kT_286 860).trans rfl
set_option maxRecDepth 100000 in
theorem r_286_861 : xT.1 286 861 = some (.ireturn, ((0, 0), ([], []))) := (kT_286 861).trans rfl
set_option maxRecDepth 100000 in
theorem r_286_862 : xT.1 286 862 = some (.goto 2035, ((2897, 0), ([], []))) := (kT_286 862).trans rfl
set_option maxRecDepth 100000 in
theorem r_286_865 : xT.1 286 865 = some (.aload_n 1, ((0, 0), ([], []))) := (kT_286 865).trans rfl
set_option maxRecDepth 100000 in
theorem r_286_866 : xT.1 286 866 = some (.aload_n 0, ((0, 0), ([], []))) := (kT_286 866).trans rfl
set_option maxRecDepth 100000 in
theorem r_286_867 : xT.1 286 867 = some (.iload 5, ((0, 0), ([], []))) := (kT_286 867).trans rfl
set_option maxRecDepth 100000 in
theorem r_286_869 : xT.1 286 869 = some (.iconst 1, ((0, 0), ([.int 1], []))) := (kT_286 869).trans rfl
set_option maxRecDepth 100000 in
theorem r_286_870 : xT.1 286 870 = some (.iadd, ((0, 0), ([], []))) := (kT_286 870).trans rfl
set_option maxRecDepth 100000 in
theorem r_286_871 : xT.1 286 871 = some (.iaload, ((0, 0), ([], []))) := (kT_286 871).trans rfl
set_option maxRecDepth 100000 in
theorem r_286_872 : xT.1 286 872 = some (.aload_n 3, ((0, 0), ([], []))) := (kT_286 872).trans rfl
set_option maxRecDepth 100000 in
theorem r_286_873 : xT.1 286 873 = some (.invokestatic 215, ((252, 3), ([], [3]))) := (kT_286 873).trans rfl
set_option maxRecDepth 100000 in
theorem r_286_876 : xT.1 286 876 = some (.istore 6, ((0, 0), ([], []))) := (kT_286 876).trans rfl
set_option maxRecDepth 100000 in
theorem r_286_878 : xT.1 286 878 = some (.aload_n 2, ((0, 0), ([], []))) := (kT_286 878).trans rfl
set_option maxRecDepth 100000 in
theorem r_286_879 : xT.1 286 879 = some (.aload_n 0, ((0, 0), ([], []))) := (kT_286 879).trans rfl
set_option maxRecDepth 100000 in
theorem r_286_880 : xT.1 286 880 = some (.iload 5, ((0, 0), ([], []))) := (kT_286 880).trans rfl
set_option maxRecDepth 100000 in
theorem r_286_882 : xT.1 286 882 = some (.iconst 1, ((0, 0), ([.int 1], []))) := (kT_286 882).trans rfl
set_option maxRecDepth 100000 in
theorem r_286_883 : xT.1 286 883 = some (.iadd, ((0, 0), ([], []))) := (kT_286 883).trans rfl
set_option maxRecDepth 100000 in
theorem r_286_884 : xT.1 286 884 = some (.iaload, ((0, 0), ([], []))) := (kT_286 884).trans rfl
set_option maxRecDepth 100000 in
theorem r_286_885 : xT.1 286 885 = some (.invokevirtual 217, ((186, 2), ([], [0]))) := (kT_286 885).trans rfl
set_option maxRecDepth 100000 in
theorem r_286_888 : xT.1 286 888 = some (.istore 7, ((0, 0), ([], []))) := (kT_286 888).trans rfl
set_option maxRecDepth 100000 in
theorem r_286_890 : xT.1 286 890 = some (.aload_n 2, ((0, 0), ([], []))) := (kT_286 890).trans rfl
set_option maxRecDepth 100000 in
theorem r_286_891 : xT.1 286 891 = some (.invokevirtual 170, ((149, 1), ([], [0]))) := (kT_286 891).trans rfl
set_option maxRecDepth 100000 in
theorem r_286_894 : xT.1 286 894 = some (.iload 6, ((0, 0), ([], []))) := (kT_286 894).trans rfl
set_option maxRecDepth 100000 in
theorem r_286_896 : xT.1 286 896 = some (.if_icmp .eq 5, ((901, 0), ([], []))) := (kT_286 896).trans rfl
set_option maxRecDepth 100000 in
theorem r_286_899 : xT.1 286 899 = some (.iconst 0, ((0, 0), ([.int 0], []))) := (kT_286 899).trans rfl
set_option maxRecDepth 100000 in
theorem r_286_900 : xT.1 286 900 = some (.ireturn, ((0, 0), ([], []))) := (kT_286 900).trans rfl
set_option maxRecDepth 100000 in
theorem r_286_901 : xT.1 286 901 = some (.iload 6, ((0, 0), ([], []))) := (kT_286 901).trans rfl
set_option maxRecDepth 100000 in
theorem r_286_903 : xT.1 286 903 = some (.ifCond .ne 15, ((918, 0), ([], []))) := (kT_286 903).trans rfl
set_option maxRecDepth 100000 in
theorem r_286_906 : xT.1 286 906 = some (.aload_n 3, ((0, 0), ([], []))) := (kT_286 906).trans rfl
set_option maxRecDepth 100000 in
theorem r_286_907 : xT.1 286 907 = some (.iconst 0, ((0, 0), ([.int 0], []))) := (kT_286 907).trans rfl
set_option maxRecDepth 100000 in
theorem r_286_908 : xT.1 286 908 = some (.laload, ((0, 0), ([], []))) := (kT_286 908).trans rfl
set_option maxRecDepth 100000 in
theorem r_286_909 : xT.1 286 909 = some (.iload 7, ((0, 0), ([], []))) := (kT_286 909).trans rfl
set_option maxRecDepth 100000 in
theorem r_286_911 : xT.1 286 911 = some (.i2l, ((0, 0), ([], []))) := (kT_286 911).trans rfl
set_option maxRecDepth 100000 in
theorem r_286_912 : xT.1 286 912 = some (.lcmp, ((0, 0), ([], []))) := (kT_286 912).trans rfl
set_option maxRecDepth 100000 in
theorem r_286_913 : xT.1 286 913 = some (.ifCond .eq 5, ((918, 0), ([], []))) := (kT_286 913).trans rfl
set_option maxRecDepth 100000 in
theorem r_286_916 : xT.1 286 916 = some (.iconst 0, ((0, 0), ([.int 0], []))) := (kT_286 916).trans rfl
set_option maxRecDepth 100000 in
theorem r_286_917 : xT.1 286 917 = some (.ireturn, ((0, 0), ([], []))) := (kT_286 917).trans rfl
set_option maxRecDepth 100000 in
theorem r_286_918 : xT.1 286 918 = some (.goto 1979, ((2897, 0), ([], []))) := (kT_286 918).trans rfl
set_option maxRecDepth 100000 in
theorem r_286_921 : xT.1 286 921 = some (.aload_n 1, ((0, 0), ([], []))) := (kT_286 921).trans rfl
set_option maxRecDepth 100000 in
theorem r_286_922 : xT.1 286 922 = some (.aload_n 0, ((0, 0), ([], []))) := (kT_286 922).trans rfl
set_option maxRecDepth 100000 in
theorem r_286_923 : xT.1 286 923 = some (.iload 5, ((0, 0), ([], []))) := (kT_286 923).trans rfl
set_option maxRecDepth 100000 in
theorem r_286_925 : xT.1 286 925 = some (.iconst 1, ((0, 0), ([.int 1], []))) := (kT_286 925).trans rfl
set_option maxRecDepth 100000 in
theorem r_286_926 : xT.1 286 926 = some (.iadd, ((0, 0), ([], []))) := (kT_286 926).trans rfl
set_option maxRecDepth 100000 in
theorem r_286_927 : xT.1 286 927 = some (.iaload, ((0, 0), ([], []))) := (kT_286 927).trans rfl
set_option maxRecDepth 100000 in
theorem r_286_928 : xT.1 286 928 = some (.aload_n 3, ((0, 0), ([], []))) := (kT_286 928).trans rfl
set_option maxRecDepth 100000 in
theorem r_286_929 : xT.1 286 929 = some (.invokestatic 218, ((253, 3), ([], [3]))) := (kT_286 929).trans rfl
set_option maxRecDepth 100000 in
theorem r_286_932 : xT.1 286 932 = some (.istore 6, ((0, 0), ([], []))) := (kT_286 932).trans rfl
set_option maxRecDepth 100000 in
theorem r_286_934 : xT.1 286 934 = some (.aload_n 2, ((0, 0), ([], []))) := (kT_286 934).trans rfl
set_option maxRecDepth 100000 in
theorem r_286_935 : xT.1 286 935 = some (.aload_n 0, ((0, 0), ([], []))) := (kT_286 935).trans rfl
set_option maxRecDepth 100000 in
theorem r_286_936 : xT.1 286 936 = some (.iload 5, ((0, 0), ([], []))) := (kT_286 936).trans rfl
set_option maxRecDepth 100000 in
theorem r_286_938 : xT.1 286 938 = some (.iconst 1, ((0, 0), ([.int 1], []))) := (kT_286 938).trans rfl
set_option maxRecDepth 100000 in
theorem r_286_939 : xT.1 286 939 = some (.iadd, ((0, 0), ([], []))) := (kT_286 939).trans rfl
set_option maxRecDepth 100000 in
theorem r_286_940 : xT.1 286 940 = some (.iaload, ((0, 0), ([], []))) := (kT_286 940).trans rfl
set_option maxRecDepth 100000 in
theorem r_286_941 : xT.1 286 941 = some (.invokevirtual 220, ((187, 2), ([], [0]))) := (kT_286 941).trans rfl
set_option maxRecDepth 100000 in
theorem r_286_944 : xT.1 286 944 = some (.istore 7, ((0, 0), ([], []))) := (kT_286 944).trans rfl
set_option maxRecDepth 100000 in
theorem r_286_946 : xT.1 286 946 = some (.aload_n 2, ((0, 0), ([], []))) := (kT_286 946).trans rfl
set_option maxRecDepth 100000 in
theorem r_286_947 : xT.1 286 947 = some (.invokevirtual 170, ((149, 1), ([], [0]))) := (kT_286 947).trans rfl
set_option maxRecDepth 100000 in
theorem r_286_950 : xT.1 286 950 = some (.iload 6, ((0, 0), ([], []))) := (kT_286 950).trans rfl
set_option maxRecDepth 100000 in
theorem r_286_952 : xT.1 286 952 = some (.if_icmp .eq 5, ((957, 0), ([], []))) := (kT_286 952).trans rfl
set_option maxRecDepth 100000 in
theorem r_286_955 : xT.1 286 955 = some (.iconst 0, ((0, 0), ([.int 0], []))) := (kT_286 955).trans rfl
set_option maxRecDepth 100000 in
theorem r_286_956 : xT.1 286 956 = some (.ireturn, ((0, 0), ([], []))) := (kT_286 956).trans rfl
set_option maxRecDepth 100000 in
theorem r_286_957 : xT.1 286 957 = some (.iload 6, ((0, 0), ([], []))) := (kT_286 957).trans rfl
set_option maxRecDepth 100000 in
theorem r_286_959 : xT.1 286 959 = some (.ifCond .ne 15, ((974, 0), ([], []))) := (kT_286 959).trans rfl
set_option maxRecDepth 100000 in
theorem r_286_962 : xT.1 286 962 = some (.aload_n 3, ((0, 0), ([], []))) := (kT_286 962).trans rfl
set_option maxRecDepth 100000 in
theorem r_286_963 : xT.1 286 963 = some (.iconst 0, ((0, 0), ([.int 0], []))) := (kT_286 963).trans rfl
set_option maxRecDepth 100000 in
theorem r_286_964 : xT.1 286 964 = some (.laload, ((0, 0), ([], []))) := (kT_286 964).trans rfl
set_option maxRecDepth 100000 in
theorem r_286_965 : xT.1 286 965 = some (.iload 7, ((0, 0), ([], []))) := (kT_286 965).trans rfl
set_option maxRecDepth 100000 in
theorem r_286_967 : xT.1 286 967 = some (.i2l, ((0, 0), ([], []))) := (kT_286 967).trans rfl
set_option maxRecDepth 100000 in
theorem r_286_968 : xT.1 286 968 = some (.lcmp, ((0, 0), ([], []))) := (kT_286 968).trans rfl
set_option maxRecDepth 100000 in
theorem r_286_969 : xT.1 286 969 = some (.ifCond .eq 5, ((974, 0), ([], []))) := (kT_286 969).trans rfl
set_option maxRecDepth 100000 in
theorem r_286_972 : xT.1 286 972 = some (.iconst 0, ((0, 0), ([.int 0], []))) := (kT_286 972).trans rfl
set_option maxRecDepth 100000 in
theorem r_286_973 : xT.1 286 973 = some (.ireturn, ((0, 0), ([], []))) := (kT_286 973).trans rfl
set_option maxRecDepth 100000 in
theorem r_286_974 : xT.1 286 974 = some (.goto 1923, ((2897, 0), ([], []))) := (kT_286 974).trans rfl
set_option maxRecDepth 100000 in
theorem r_286_977 : xT.1 286 977 = some (.aload_n 1, ((0, 0), ([], []))) := (kT_286 977).trans rfl
set_option maxRecDepth 100000 in
theorem r_286_978 : xT.1 286 978 = some (.aload_n 0, ((0, 0), ([], []))) := (kT_286 978).trans rfl
set_option maxRecDepth 100000 in
theorem r_286_979 : xT.1 286 979 = some (.iload 5, ((0, 0), ([], []))) := (kT_286 979).trans rfl
set_option maxRecDepth 100000 in
theorem r_286_981 : xT.1 286 981 = some (.iconst 1, ((0, 0), ([.int 1], []))) := (kT_286 981).trans rfl
set_option maxRecDepth 100000 in
theorem r_286_982 : xT.1 286 982 = some (.iadd, ((0, 0), ([], []))) := (kT_286 982).trans rfl
set_option maxRecDepth 100000 in
theorem r_286_983 : xT.1 286 983 = some (.iaload, ((0, 0), ([], []))) := (kT_286 983).trans rfl
set_option maxRecDepth 100000 in
theorem r_286_984 : xT.1 286 984 = some (.aload_n 3, ((0, 0), ([], []))) := (kT_286 984).trans rfl
set_option maxRecDepth 100000 in
theorem r_286_985 : xT.1 286 985 = some (.invokestatic 221, ((254, 3), ([], [3]))) := (kT_286 985).trans rfl
set_option maxRecDepth 100000 in
theorem r_286_988 : xT.1 286 988 = some (.istore 6, ((0, 0), ([], []))) := (kT_286 988).trans rfl
set_option maxRecDepth 100000 in
theorem r_286_990 : xT.1 286 990 = some (.aload_n 2, ((0, 0), ([], []))) := (kT_286 990).trans rfl
set_option maxRecDepth 100000 in
theorem r_286_991 : xT.1 286 991 = some (.aload_n 0, ((0, 0), ([], []))) := (kT_286 991).trans rfl
set_option maxRecDepth 100000 in
theorem r_286_992 : xT.1 286 992 = some (.iload 5, ((0, 0), ([], []))) := (kT_286 992).trans rfl
set_option maxRecDepth 100000 in
theorem r_286_994 : xT.1 286 994 = some (.iconst 1, ((0, 0), ([.int 1], []))) := (kT_286 994).trans rfl
set_option maxRecDepth 100000 in
theorem r_286_995 : xT.1 286 995 = some (.iadd, ((0, 0), ([], []))) := (kT_286 995).trans rfl
set_option maxRecDepth 100000 in
theorem r_286_996 : xT.1 286 996 = some (.iaload, ((0, 0), ([], []))) := (kT_286 996).trans rfl
set_option maxRecDepth 100000 in
theorem r_286_997 : xT.1 286 997 = some (.invokevirtual 223, ((188, 2), ([], [0]))) := (kT_286 997).trans rfl
set_option maxRecDepth 100000 in
theorem r_286_1000 : xT.1 286 1000 = some (.istore 7, ((0, 0), ([], []))) := (kT_286 1000).trans rfl
set_option maxRecDepth 100000 in
theorem r_286_1002 : xT.1 286 1002 = some (.aload_n 2, ((0, 0), ([], []))) := (kT_286 1002).trans rfl
set_option maxRecDepth 100000 in
theorem r_286_1003 : xT.1 286 1003 = some (.invokevirtual 170, ((149, 1), ([], [0]))) := (kT_286 1003).trans rfl
set_option maxRecDepth 100000 in
theorem r_286_1006 : xT.1 286 1006 = some (.iload 6, ((0, 0), ([], []))) := (kT_286 1006).trans rfl
set_option maxRecDepth 100000 in
theorem r_286_1008 : xT.1 286 1008 = some (.if_icmp .eq 5, ((1013, 0), ([], []))) := (kT_286 1008).trans rfl
set_option maxRecDepth 100000 in
theorem r_286_1011 : xT.1 286 1011 = some (.iconst 0, ((0, 0), ([.int 0], []))) := (kT_286 1011).trans rfl
set_option maxRecDepth 100000 in
theorem r_286_1012 : xT.1 286 1012 = some (.ireturn, ((0, 0), ([], []))) := (kT_286 1012).trans rfl
set_option maxRecDepth 100000 in
theorem r_286_1013 : xT.1 286 1013 = some (.iload 6, ((0, 0), ([], []))) := (kT_286 1013).trans rfl
set_option maxRecDepth 100000 in
theorem r_286_1015 : xT.1 286 1015 = some (.ifCond .ne 15, ((1030, 0), ([], []))) := (kT_286 1015).trans rfl
set_option maxRecDepth 100000 in
theorem r_286_1018 : xT.1 286 1018 = some (.aload_n 3, ((0, 0), ([], []))) := (kT_286 1018).trans rfl
set_option maxRecDepth 100000 in
theorem r_286_1019 : xT.1 286 1019 = some (.iconst 0, ((0, 0), ([.int 0], []))) := (kT_286 1019).trans rfl
set_option maxRecDepth 100000 in
theorem r_286_1020 : xT.1 286 1020 = some (.laload, ((0, 0), ([], []))) := (kT_286 1020).trans rfl
set_option maxRecDepth 100000 in
theorem r_286_1021 : xT.1 286 1021 = some (.iload 7, ((0, 0), ([], []))) := (kT_286 1021).trans rfl
set_option maxRecDepth 100000 in
theorem r_286_1023 : xT.1 286 1023 = some (.i2l, ((0, 0), ([], []))) := (kT_286 1023).trans rfl
set_option maxRecDepth 100000 in
theorem r_286_1024 : xT.1 286 1024 = some (.lcmp, ((0, 0), ([], []))) := (kT_286 1024).trans rfl
set_option maxRecDepth 100000 in
theorem r_286_1025 : xT.1 286 1025 = some (.ifCond .eq 5, ((1030, 0), ([], []))) := (kT_286 1025).trans rfl
set_option maxRecDepth 100000 in
theorem r_286_1028 : xT.1 286 1028 = some (.iconst 0, ((0, 0), ([.int 0], []))) := (kT_286 1028).trans rfl
set_option maxRecDepth 100000 in
theorem r_286_1029 : xT.1 286 1029 = some (.ireturn, ((0, 0), ([], []))) := (kT_286 1029).trans rfl
set_option maxRecDepth 100000 in
theorem r_286_1030 : xT.1 286 1030 = some (.goto 1867, ((2897, 0), ([], []))) := (kT_286 1030).trans rfl
set_option maxRecDepth 100000 in
theorem r_286_1033 : xT.1 286 1033 = some (.aload_n 1, ((0, 0), ([], []))) := (kT_286 1033).trans rfl
set_option maxRecDepth 100000 in
theorem r_286_1034 : xT.1 286 1034 = some (.aload_n 0, ((0, 0), ([], []))) := (kT_286 1034).trans rfl
set_option maxRecDepth 100000 in
theorem r_286_1035 : xT.1 286 1035 = some (.iload 5, ((0, 0), ([], []))) := (kT_286 1035).trans rfl
set_option maxRecDepth 100000 in
theorem r_286_1037 : xT.1 286 1037 = some (.iconst 1, ((0, 0), ([.int 1], []))) := (kT_286 1037).trans rfl
set_option maxRecDepth 100000 in
theorem r_286_1038 : xT.1 286 1038 = some (.iadd, ((0, 0), ([], []))) := (kT_286 1038).trans rfl
set_option maxRecDepth 100000 in
theorem r_286_1039 : xT.1 286 1039 = some (.iaload, ((0, 0), ([], []))) := (kT_286 1039).trans rfl
set_option maxRecDepth 100000 in
theorem r_286_1040 : xT.1 286 1040 = some (.aload_n 0, ((0, 0), ([], []))) := (kT_286 1040).trans rfl
set_option maxRecDepth 100000 in
theorem r_286_1041 : xT.1 286 1041 = some (.iload 5, ((0, 0), ([], []))) := (kT_286 1041).trans rfl
set_option maxRecDepth 100000 in
theorem r_286_1043 : xT.1 286 1043 = some (.iconst 2, ((0, 0), ([.int 2], []))) := (kT_286 1043).trans rfl
set_option maxRecDepth 100000 in
theorem r_286_1044 : xT.1 286 1044 = some (.iadd, ((0, 0), ([], []))) := (kT_286 1044).trans rfl
set_option maxRecDepth 100000 in
theorem r_286_1045 : xT.1 286 1045 = some (.iaload, ((0, 0), ([], []))) := (kT_286 1045).trans rfl
set_option maxRecDepth 100000 in
theorem r_286_1046 : xT.1 286 1046 = some (.aload_n 3, ((0, 0), ([], []))) := (kT_286 1046).trans rfl
set_option maxRecDepth 100000 in
theorem r_286_1047 : xT.1 286 1047 = some (.invokestatic 224, ((255, 4), ([], [3]))) := (kT_286 1047).trans rfl
set_option maxRecDepth 100000 in
theorem r_286_1050 : xT.1 286 1050 = some (.istore 6, ((0, 0), ([], []))) := (kT_286 1050).trans rfl
set_option maxRecDepth 100000 in
theorem r_286_1052 : xT.1 286 1052 = some (.aload_n 2, ((0, 0), ([], []))) := (kT_286 1052).trans rfl
set_option maxRecDepth 100000 in
theorem r_286_1053 : xT.1 286 1053 = some (.aload_n 0, ((0, 0), ([], []))) := (kT_286 1053).trans rfl
set_option maxRecDepth 100000 in
theorem r_286_1054 : xT.1 286 1054 = some (.iload 5, ((0, 0), ([], []))) := (kT_286 1054).trans rfl
set_option maxRecDepth 100000 in
theorem r_286_1056 : xT.1 286 1056 = some (.iconst 1, ((0, 0), ([.int 1], []))) := (kT_286 1056).trans rfl
set_option maxRecDepth 100000 in
theorem r_286_1057 : xT.1 286 1057 = some (.iadd, ((0, 0), ([], []))) := (kT_286 1057).trans rfl
set_option maxRecDepth 100000 in
theorem r_286_1058 : xT.1 286 1058 = some (.iaload, ((0, 0), ([], []))) := (kT_286 1058).trans rfl
set_option maxRecDepth 100000 in
theorem r_286_1059 : xT.1 286 1059 = some (.aload_n 0, ((0, 0), ([], []))) := (kT_286 1059).trans rfl
set_option maxRecDepth 100000 in
theorem r_286_1060 : xT.1 286 1060 = some (.iload 5, ((0, 0), ([], []))) := (kT_286 1060).trans rfl
set_option maxRecDepth 100000 in
theorem r_286_1062 : xT.1 286 1062 = some (.iconst 2, ((0, 0), ([.int 2], []))) := (kT_286 1062).trans rfl
set_option maxRecDepth 100000 in
theorem r_286_1063 : xT.1 286 1063 = some (.iadd, ((0, 0), ([], []))) := (kT_286 1063).trans rfl
set_option maxRecDepth 100000 in
theorem r_286_1064 : xT.1 286 1064 = some (.iaload, ((0, 0), ([], []))) := (kT_286 1064).trans rfl
set_option maxRecDepth 100000 in
theorem r_286_1065 : xT.1 286 1065 = some (.invokevirtual 227, ((189, 3), ([], [0]))) := (kT_286 1065).trans rfl
set_option maxRecDepth 100000 in
theorem r_286_1068 : xT.1 286 1068 = some (.istore 7, ((0, 0), ([], []))) := (kT_286 1068).trans rfl
set_option maxRecDepth 100000 in
theorem r_286_1070 : xT.1 286 1070 = some (.aload_n 2, ((0, 0), ([], []))) := (kT_286 1070).trans rfl
set_option maxRecDepth 100000 in
theorem r_286_1071 : xT.1 286 1071 = some (.invokevirtual 170, ((149, 1), ([], [0]))) := (kT_286 1071).trans rfl
set_option maxRecDepth 100000 in
theorem r_286_1074 : xT.1 286 1074 = some (.iload 6, ((0, 0), ([], []))) := (kT_286 1074).trans rfl
set_option maxRecDepth 100000 in
theorem r_286_1076 : xT.1 286 1076 = some (.if_icmp .eq 5, ((1081, 0), ([], []))) := (kT_286 1076).trans rfl
set_option maxRecDepth 100000 in
theorem r_286_1079 : xT.1 286 1079 = some (.iconst 0, ((0, 0), ([.int 0], []))) := (kT_286 1079).trans rfl
set_option maxRecDepth 100000 in
theorem r_286_1080 : xT.1 286 1080 = some (.ireturn, ((0, 0), ([], []))) := (kT_286 1080).trans rfl
set_option maxRecDepth 100000 in
theorem r_286_1081 : xT.1 286 1081 = some (.iload 6, ((0, 0), ([], []))) := (kT_286 1081).trans rfl
set_option maxRecDepth 100000 in
theorem r_286_1083 : xT.1 286 1083 = some (.ifCond .ne 15, ((1098, 0), ([], []))) := (kT_286 1083).trans rfl
set_option maxRecDepth 100000 in
theorem r_286_1086 : xT.1 286 1086 = some (.aload_n 3, ((0, 0), ([], []))) := (kT_286 1086).trans rfl
set_option maxRecDepth 100000 in
theorem r_286_1087 : xT.1 286 1087 = some (.iconst 0, ((0, 0), ([.int 0], []))) := (kT_286 1087).trans rfl
set_option maxRecDepth 100000 in
theorem r_286_1088 : xT.1 286 1088 = some (.laload, ((0, 0), ([], []))) := (kT_286 1088).trans rfl
set_option maxRecDepth 100000 in
theorem r_286_1089 : xT.1 286 1089 = some (.iload 7, ((0, 0), ([], []))) := (kT_286 1089).trans rfl
set_option maxRecDepth 100000 in
theorem r_286_1091 : xT.1 286 1091 = some (.i2l, ((0, 0), ([], []))) := (kT_286 1091).trans rfl
set_option maxRecDepth 100000 in
theorem r_286_1092 : xT.1 286 1092 = some (.lcmp, ((0, 0), ([], []))) := (kT_286 1092).trans rfl
set_option maxRecDepth 100000 in
theorem r_286_1093 : xT.1 286 1093 = some (.ifCond .eq 5, ((1098, 0), ([], []))) := (kT_286 1093).trans rfl
set_option maxRecDepth 100000 in
theorem r_286_1096 : xT.1 286 1096 = some (.iconst 0, ((0, 0), ([.int 0], []))) := (kT_286 1096).trans rfl
set_option maxRecDepth 100000 in
theorem r_286_1097 : xT.1 286 1097 = some (.ireturn, ((0, 0), ([], []))) := (kT_286 1097).trans rfl
set_option maxRecDepth 100000 in
theorem r_286_1098 : xT.1 286 1098 = some (.goto 1799, ((2897, 0), ([], []))) := (kT_286 1098).trans rfl
set_option maxRecDepth 100000 in
theorem r_286_1101 : xT.1 286 1101 = some (.aload_n 1, ((0, 0), ([], []))) := (kT_286 1101).trans rfl
set_option maxRecDepth 100000 in
theorem r_286_1102 : xT.1 286 1102 = some (.aload_n 0, ((0, 0), ([], []))) := (kT_286 1102).trans rfl
set_option maxRecDepth 100000 in
theorem r_286_1103 : xT.1 286 1103 = some (.iload 5, ((0, 0), ([], []))) := (kT_286 1103).trans rfl
set_option maxRecDepth 100000 in
theorem r_286_1105 : xT.1 286 1105 = some (.iconst 1, ((0, 0), ([.int 1], []))) := (kT_286 1105).trans rfl
set_option maxRecDepth 100000 in
theorem r_286_1106 : xT.1 286 1106 = some (.iadd, ((0, 0), ([], []))) := (kT_286 1106).trans rfl
set_option maxRecDepth 100000 in
theorem r_286_1107 : xT.1 286 1107 = some (.iaload, ((0, 0), ([], []))) := (kT_286 1107).trans rfl
set_option maxRecDepth 100000 in
theorem r_286_1108 : xT.1 286 1108 = some (.aload_n 0, ((0, 0), ([], []))) := (kT_286 1108).trans rfl
set_option maxRecDepth 100000 in
theorem r_286_1109 : xT.1 286 1109 = some (.iload 5, ((0, 0), ([], []))) := (kT_286 1109).trans rfl
set_option maxRecDepth 100000 in
theorem r_286_1111 : xT.1 286 1111 = some (.iconst 2, ((0, 0), ([.int 2], []))) := (kT_286 1111).trans rfl
set_option maxRecDepth 100000 in
theorem r_286_1112 : xT.1 286 1112 = some (.iadd, ((0, 0), ([], []))) := (kT_286 1112).trans rfl
set_option maxRecDepth 100000 in
theorem r_286_1113 : xT.1 286 1113 = some (.iaload, ((0, 0), ([], []))) := (kT_286 1113).trans rfl
set_option maxRecDepth 100000 in
theorem r_286_1114 : xT.1 286 1114 = some (.aload_n 3, ((0, 0), ([], []))) := (kT_286 1114).trans rfl
set_option maxRecDepth 100000 in
theorem r_286_1115 : xT.1 286 1115 = some (.invokestatic 228, ((256, 4), ([], [3]))) := (kT_286 1115).trans rfl
set_option maxRecDepth 100000 in
theorem r_286_1118 : xT.1 286 1118 = some (.istore 6, ((0, 0), ([], []))) := (kT_286 1118).trans rfl
set_option maxRecDepth 100000 in
theorem r_286_1120 : xT.1 286 1120 = some (.aload_n 2, ((0, 0), ([], []))) := (kT_286 1120).trans rfl
set_option maxRecDepth 100000 in
theorem r_286_1121 : xT.1 286 1121 = some (.aload_n 0, ((0, 0), ([], []))) := (kT_286 1121).trans rfl
set_option maxRecDepth 100000 in
theorem r_286_1122 : xT.1 286 1122 = some (.iload 5, ((0, 0), ([], []))) := (kT_286 1122).trans rfl
set_option maxRecDepth 100000 in
theorem r_286_1124 : xT.1 286 1124 = some (.iconst 1, ((0, 0), ([.int 1], []))) := (kT_286 1124).trans rfl
set_option maxRecDepth 100000 in
theorem r_286_1125 : xT.1 286 1125 = some (.iadd, ((0, 0), ([], []))) := (kT_286 1125).trans rfl
set_option maxRecDepth 100000 in
theorem r_286_1126 : xT.1 286 1126 = some (.iaload, ((0, 0), ([], []))) := (kT_286 1126).trans rfl
set_option maxRecDepth 100000 in
theorem r_286_1127 : xT.1 286 1127 = some (.aload_n 0, ((0, 0), ([], []))) := (kT_286 1127).trans rfl
set_option maxRecDepth 100000 in
theorem r_286_1128 : xT.1 286 1128 = some (.iload 5, ((0, 0), ([], []))) := (kT_286 1128).trans rfl
set_option maxRecDepth 100000 in
theorem r_286_1130 : xT.1 286 1130 = some (.iconst 2, ((0, 0), ([.int 2], []))) := (kT_286 1130).trans rfl
set_option maxRecDepth 100000 in
theorem r_286_1131 : xT.1 286 1131 = some (.iadd, ((0, 0), ([], []))) := (kT_286 1131).trans rfl
set_option maxRecDepth 100000 in
theorem r_286_1132 : xT.1 286 1132 = some (.iaload, ((0, 0), ([], []))) := (kT_286 1132).trans rfl
set_option maxRecDepth 100000 in
theorem r_286_1133 : xT.1 286 1133 = some (.invokevirtual 230, ((190, 3), ([], [0]))) := (kT_286 1133).trans rfl
set_option maxRecDepth 100000 in
theorem r_286_1136 : xT.1 286 1136 = some (.istore 7, ((0, 0), ([], []))) := (kT_286 1136).trans rfl
set_option maxRecDepth 100000 in
theorem r_286_1138 : xT.1 286 1138 = some (.aload_n 2, ((0, 0), ([], []))) := (kT_286 1138).trans rfl
set_option maxRecDepth 100000 in
theorem r_286_1139 : xT.1 286 1139 = some (.invokevirtual 170, ((149, 1), ([], [0]))) := (kT_286 1139).trans rfl
set_option maxRecDepth 100000 in
theorem r_286_1142 : xT.1 286 1142 = some (.iload 6, ((0, 0), ([], []))) := (kT_286 1142).trans rfl
set_option maxRecDepth 100000 in
theorem r_286_1144 : xT.1 286 1144 = some (.if_icmp .eq 5, ((1149, 0), ([], []))) := (kT_286 1144).trans rfl
set_option maxRecDepth 100000 in
theorem r_286_1147 : xT.1 286 1147 = some (.iconst 0, ((0, 0), ([.int 0], []))) := (kT_286 1147).trans rfl
set_option maxRecDepth 100000 in
theorem r_286_1148 : xT.1 286 1148 = some (.ireturn, ((0, 0), ([], []))) := (kT_286 1148).trans rfl
set_option maxRecDepth 100000 in
theorem r_286_1149 : xT.1 286 1149 = some (.iload 6, ((0, 0), ([], []))) := (kT_286 1149).trans rfl
set_option maxRecDepth 100000 in
theorem r_286_1151 : xT.1 286 1151 = some (.ifCond .ne 22, ((1173, 0), ([], []))) := (kT_286 1151).trans rfl
set_option maxRecDepth 100000 in
theorem r_286_1154 : xT.1 286 1154 = some (.aload_n 3, ((0, 0), ([], []))) := (kT_286 1154).trans rfl
set_option maxRecDepth 100000 in
theorem r_286_1155 : xT.1 286 1155 = some (.iconst 0, ((0, 0), ([.int 0], []))) := (kT_286 1155).trans rfl
set_option maxRecDepth 100000 in
theorem r_286_1156 : xT.1 286 1156 = some (.laload, ((0, 0), ([], []))) := (kT_286 1156).trans rfl
set_option maxRecDepth 100000 in
theorem r_286_1157 : xT.1 286 1157 = some (.iload 7, ((0, 0), ([], []))) := (kT_286 1157).trans rfl
set_option maxRecDepth 100000 in
theorem r_286_1159 : xT.1 286 1159 = some (.ifCond .eq 7, ((1166, 0), ([], []))) := (kT_286 1159).trans rfl
set_option maxRecDepth 100000 in
theorem r_286_1162 : xT.1 286 1162 = some (.lconst 1, ((0, 0), ([.long 1], []))) := (kT_286 1162).trans rfl
set_option maxRecDepth 100000 in
theorem r_286_1163 : xT.1 286 1163 = some (.goto 4, ((1167, 0), ([], []))) := (kT_286 1163).trans rfl
set_option maxRecDepth 100000 in
theorem r_286_1166 : xT.1 286 1166 = some (.lconst 0, ((0, 0), ([.long 0], []))) := (kT_286 1166).trans rfl
set_option maxRecDepth 100000 in
theorem r_286_1167 : xT.1 286 1167 = some (.lcmp, ((0, 0), ([], []))) := (kT_286 1167).trans rfl
set_option maxRecDepth 100000 in
theorem r_286_1168 : xT.1 286 1168 = some (.ifCond .eq 5, ((1173, 0), ([], []))) := (kT_286 1168).trans rfl
set_option maxRecDepth 100000 in
theorem r_286_1171 : xT.1 286 1171 = some (.iconst 0, ((0, 0), ([.int 0], []))) := (kT_286 1171).trans rfl
set_option maxRecDepth 100000 in
theorem r_286_1172 : xT.1 286 1172 = some (.ireturn, ((0, 0), ([], []))) := (kT_286 1172).trans rfl
set_option maxRecDepth 100000 in
theorem r_286_1173 : xT.1 286 1173 = some (.goto 1724, ((2897, 0), ([], []))) := (kT_286 1173).trans rfl
set_option maxRecDepth 100000 in
theorem r_286_1176 : xT.1 286 1176 = some (.aload_n 1, ((0, 0), ([], []))) := (kT_286 1176).trans rfl
set_option maxRecDepth 100000 in
theorem r_286_1177 : xT.1 286 1177 = some (.aload_n 0, ((0, 0), ([], []))) := (kT_286 1177).trans rfl
set_option maxRecDepth 100000 in
theorem r_286_1178 : xT.1 286 1178 = some (.iload 5, ((0, 0), ([], []))) := (kT_286 1178).trans rfl
set_option maxRecDepth 100000 in
theorem r_286_1180 : xT.1 286 1180 = some (.iconst 1, ((0, 0), ([.int 1], []))) := (kT_286 1180).trans rfl
set_option maxRecDepth 100000 in
theorem r_286_1181 : xT.1 286 1181 = some (.iadd, ((0, 0), ([], []))) := (kT_286 1181).trans rfl
set_option maxRecDepth 100000 in
theorem r_286_1182 : xT.1 286 1182 = some (.iaload, ((0, 0), ([], []))) := (kT_286 1182).trans rfl
set_option maxRecDepth 100000 in
theorem r_286_1183 : xT.1 286 1183 = some (.aload_n 0, ((0, 0), ([], []))) := (kT_286 1183).trans rfl
set_option maxRecDepth 100000 in
theorem r_286_1184 : xT.1 286 1184 = some (.iload 5, ((0, 0), ([], []))) := (kT_286 1184).trans rfl
set_option maxRecDepth 100000 in
theorem r_286_1186 : xT.1 286 1186 = some (.iconst 2, ((0, 0), ([.int 2], []))) := (kT_286 1186).trans rfl
set_option maxRecDepth 100000 in
theorem r_286_1187 : xT.1 286 1187 = some (.iadd, ((0, 0), ([], []))) := (kT_286 1187).trans rfl
set_option maxRecDepth 100000 in
theorem r_286_1188 : xT.1 286 1188 = some (.iaload, ((0, 0), ([], []))) := (kT_286 1188).trans rfl
set_option maxRecDepth 100000 in
theorem r_286_1189 : xT.1 286 1189 = some (.aload_n 3, ((0, 0), ([], []))) := (kT_286 1189).trans rfl
set_option maxRecDepth 100000 in
theorem r_286_1190 : xT.1 286 1190 = some (.invokestatic 231, ((257, 4), ([], [3]))) := (kT_286 1190).trans rfl
set_option maxRecDepth 100000 in
theorem r_286_1193 : xT.1 286 1193 = some (.istore 6, ((0, 0), ([], []))) := (kT_286 1193).trans rfl
set_option maxRecDepth 100000 in
theorem r_286_1195 : xT.1 286 1195 = some (.aload_n 2, ((0, 0), ([], []))) := (kT_286 1195).trans rfl
set_option maxRecDepth 100000 in
theorem r_286_1196 : xT.1 286 1196 = some (.aload_n 0, ((0, 0), ([], []))) := (kT_286 1196).trans rfl
set_option maxRecDepth 100000 in
theorem r_286_1197 : xT.1 286 1197 = some (.iload 5, ((0, 0), ([], []))) := (kT_286 1197).trans rfl
set_option maxRecDepth 100000 in
theorem r_286_1199 : xT.1 286 1199 = some (.iconst 1, ((0, 0), ([.int 1], []))) := (kT_286 1199).trans rfl
set_option maxRecDepth 100000 in
theorem r_286_1200 : xT.1 286 1200 = some (.iadd, ((0, 0), ([], []))) := (kT_286 1200).trans rfl
set_option maxRecDepth 100000 in
theorem r_286_1201 : xT.1 286 1201 = some (.iaload, ((0, 0), ([], []))) := (kT_286 1201).trans rfl
set_option maxRecDepth 100000 in
theorem r_286_1202 : xT.1 286 1202 = some (.aload_n 0, ((0, 0), ([], []))) := (kT_286 1202).trans rfl
set_option maxRecDepth 100000 in
theorem r_286_1203 : xT.1 286 1203 = some (.iload 5, ((0, 0), ([], []))) := (kT_286 1203).trans rfl
set_option maxRecDepth 100000 in
theorem r_286_1205 : xT.1 286 1205 = some (.iconst 2, ((0, 0), ([.int 2], []))) := (kT_286 1205).trans rfl
set_option maxRecDepth 100000 in
theorem r_286_1206 : xT.1 286 1206 = some (.iadd, ((0, 0), ([], []))) := (kT_286 1206).trans rfl
set_option maxRecDepth 100000 in
theorem r_286_1207 : xT.1 286 1207 = some (.iaload, ((0, 0), ([], []))) := (kT_286 1207).trans rfl
set_option maxRecDepth 100000 in
theorem r_286_1208 : xT.1 286 1208 = some (.invokevirtual 233, ((193, 3), ([], [0]))) := (kT_286 1208).trans rfl
set_option maxRecDepth 100000 in
theorem r_286_1211 : xT.1 286 1211 = some (.istore 7, ((0, 0), ([], []))) := (kT_286 1211).trans rfl
set_option maxRecDepth 100000 in
theorem r_286_1213 : xT.1 286 1213 = some (.aload_n 2, ((0, 0), ([], []))) := (kT_286 1213).trans rfl
set_option maxRecDepth 100000 in
theorem r_286_1214 : xT.1 286 1214 = some (.invokevirtual 170, ((149, 1), ([], [0]))) := (kT_286 1214).trans rfl
set_option maxRecDepth 100000 in
theorem r_286_1217 : xT.1 286 1217 = some (.iload 6, ((0, 0), ([], []))) := (kT_286 1217).trans rfl
set_option maxRecDepth 100000 in
theorem r_286_1219 : xT.1 286 1219 = some (.if_icmp .eq 5, ((1224, 0), ([], []))) := (kT_286 1219).trans rfl
set_option maxRecDepth 100000 in
theorem r_286_1222 : xT.1 286 1222 = some (.iconst 0, ((0, 0), ([.int 0], []))) := (kT_286 1222).trans rfl
set_option maxRecDepth 100000 in
theorem r_286_1223 : xT.1 286 1223 = some (.ireturn, ((0, 0), ([], []))) := (kT_286 1223).trans rfl
set_option maxRecDepth 100000 in
theorem r_286_1224 : xT.1 286 1224 = some (.iload 6, ((0, 0), ([], []))) := (kT_286 1224).trans rfl
set_option maxRecDepth 100000 in
theorem r_286_1226 : xT.1 286 1226 = some (.ifCond .ne 15, ((1241, 0), ([], []))) := (kT_286 1226).trans rfl
set_option maxRecDepth 100000 in
theorem r_286_1229 : xT.1 286 1229 = some (.aload_n 3, ((0, 0), ([], []))) := (kT_286 1229).trans rfl
set_option maxRecDepth 100000 in
theorem r_286_1230 : xT.1 286 1230 = some (.iconst 0, ((0, 0), ([.int 0], []))) := (kT_286 1230).trans rfl
set_option maxRecDepth 100000 in
theorem r_286_1231 : xT.1 286 1231 = some (.laload, ((0, 0), ([], []))) := (kT_286 1231).trans rfl
set_option maxRecDepth 100000 in
theorem r_286_1232 : xT.1 286 1232 = some (.iload 7, ((0, 0), ([], []))) := (kT_286 1232).trans rfl
set_option maxRecDepth 100000 in
theorem r_286_1234 : xT.1 286 1234 = some (.i2l, ((0, 0), ([], []))) := (kT_286 1234).trans rfl
set_option maxRecDepth 100000 in
theorem r_286_1235 : xT.1 286 1235 = some (.lcmp, ((0, 0), ([], []))) := (kT_286 1235).trans rfl
set_option maxRecDepth 100000 in
theorem r_286_1236 : xT.1 286 1236 = some (.ifCond .eq 5, ((1241, 0), ([], []))) := (kT_286 1236).trans rfl
set_option maxRecDepth 100000 in
theorem r_286_1239 : xT.1 286 1239 = some (.iconst 0, ((0, 0), ([.int 0], []))) := (kT_286 1239).trans rfl
set_option maxRecDepth 100000 in
theorem r_286_1240 : xT.1 286 1240 = some (.ireturn, ((0, 0), ([], []))) := (kT_286 1240).trans rfl
set_option maxRecDepth 100000 in
theorem r_286_1241 : xT.1 286 1241 = some (.goto 1656, ((2897, 0), ([], []))) := (kT_286 1241).trans rfl
set_option maxRecDepth 100000 in
theorem r_286_1244 : xT.1 286 1244 = some (.aload_n 1, ((0, 0), ([], []))) := (kT_286 1244).trans rfl
set_option maxRecDepth 100000 in
theorem r_286_1245 : xT.1 286 1245 = some (.aload_n 0, ((0, 0), ([], []))) := (kT_286 1245).trans rfl
set_option maxRecDepth 100000 in
theorem r_286_1246 : xT.1 286 1246 = some (.iload 5, ((0, 0), ([], []))) := (kT_286 1246).trans rfl
set_option maxRecDepth 100000 in
theorem r_286_1248 : xT.1 286 1248 = some (.iconst 1, ((0, 0), ([.int 1], []))) := (kT_286 1248).trans rfl
set_option maxRecDepth 100000 in
theorem r_286_1249 : xT.1 286 1249 = some (.iadd, ((0, 0), ([], []))) := (kT_286 1249).trans rfl
set_option maxRecDepth 100000 in
theorem r_286_1250 : xT.1 286 1250 = some (.iaload, ((0, 0), ([], []))) := (kT_286 1250).trans rfl
set_option maxRecDepth 100000 in
theorem r_286_1251 : xT.1 286 1251 = some (.aload_n 0, ((0, 0), ([], []))) := (kT_286 1251).trans rfl
set_option maxRecDepth 100000 in
theorem r_286_1252 : xT.1 286 1252 = some (.iload 5, ((0, 0), ([], []))) := (kT_286 1252).trans rfl
set_option maxRecDepth 100000 in
theorem r_286_1254 : xT.1 286 1254 = some (.iconst 2, ((0, 0), ([.int 2], []))) := (kT_286 1254).trans rfl
set_option maxRecDepth 100000 in
theorem r_286_1255 : xT.1 286 1255 = some (.iadd, ((0, 0), ([], []))) := (kT_286 1255).trans rfl
set_option maxRecDepth 100000 in
theorem r_286_1256 : xT.1 286 1256 = some (.iaload, ((0, 0), ([], []))) := (kT_286 1256).trans rfl
set_option maxRecDepth 100000 in
theorem r_286_1257 : xT.1 286 1257 = some (.aload_n 3, ((0, 0), ([], []))) := (kT_286 1257).trans rfl
set_option maxRecDepth 100000 in
theorem r_286_1258 : xT.1 286 1258 = some (.invokestatic 234, ((258, 4), ([], [3]))) := (kT_286 1258).trans rfl
set_option maxRecDepth 100000 in
theorem r_286_1261 : xT.1 286 1261 = some (.istore 6, ((0, 0), ([], []))) := (kT_286 1261).trans rfl
set_option maxRecDepth 100000 in
theorem r_286_1263 : xT.1 286 1263 = some (.aload_n 2, ((0, 0), ([], []))) := (kT_286 1263).trans rfl
set_option maxRecDepth 100000 in
theorem r_286_1264 : xT.1 286 1264 = some (.aload_n 0, ((0, 0), ([], []))) := (kT_286 1264).trans rfl
set_option maxRecDepth 100000 in
theorem r_286_1265 : xT.1 286 1265 = some (.iload 5, ((0, 0), ([], []))) := (kT_286 1265).trans rfl
set_option maxRecDepth 100000 in
theorem r_286_1267 : xT.1 286 1267 = some (.iconst 1, ((0, 0), ([.int 1], []))) := (kT_286 1267).trans rfl
set_option maxRecDepth 100000 in
theorem r_286_1268 : xT.1 286 1268 = some (.iadd, ((0, 0), ([], []))) := (kT_286 1268).trans rfl
set_option maxRecDepth 100000 in
theorem r_286_1269 : xT.1 286 1269 = some (.iaload, ((0, 0), ([], []))) := (kT_286 1269).trans rfl
set_option maxRecDepth 100000 in
theorem r_286_1270 : xT.1 286 1270 = some (.aload_n 0, ((0, 0), ([], []))) := (kT_286 1270).trans rfl
set_option maxRecDepth 100000 in
theorem r_286_1271 : xT.1 286 1271 = some (.iload 5, ((0, 0), ([], []))) := (kT_286 1271).trans rfl
set_option maxRecDepth 100000 in
theorem r_286_1273 : xT.1 286 1273 = some (.iconst 2, ((0, 0), ([.int 2], []))) := (kT_286 1273).trans rfl
set_option maxRecDepth 100000 in
theorem r_286_1274 : xT.1 286 1274 = some (.iadd, ((0, 0), ([], []))) := (kT_286 1274).trans rfl
set_option maxRecDepth 100000 in
theorem r_286_1275 : xT.1 286 1275 = some (.iaload, ((0, 0), ([], []))) := (kT_286 1275).trans rfl
set_option maxRecDepth 100000 in
theorem r_286_1276 : xT.1 286 1276 = some (.invokevirtual 236, ((194, 3), ([], [0]))) := (kT_286 1276).trans rfl
set_option maxRecDepth 100000 in
theorem r_286_1279 : xT.1 286 1279 = some (.istore 7, ((0, 0), ([], []))) := (kT_286 1279).trans rfl
set_option maxRecDepth 100000 in
theorem r_286_1281 : xT.1 286 1281 = some (.aload_n 2, ((0, 0), ([], []))) := (kT_286 1281).trans rfl
set_option maxRecDepth 100000 in
theorem r_286_1282 : xT.1 286 1282 = some (.invokevirtual 170, ((149, 1), ([], [0]))) := (kT_286 1282).trans rfl
set_option maxRecDepth 100000 in
theorem r_286_1285 : xT.1 286 1285 = some (.iload 6, ((0, 0), ([], []))) := (kT_286 1285).trans rfl
set_option maxRecDepth 100000 in
theorem r_286_1287 : xT.1 286 1287 = some (.if_icmp .eq 5, ((1292, 0), ([], []))) := (kT_286 1287).trans rfl
set_option maxRecDepth 100000 in
theorem r_286_1290 : xT.1 286 1290 = some (.iconst 0, ((0, 0), ([.int 0], []))) := (kT_286 1290).trans rfl
set_option maxRecDepth 100000 in
theorem r_286_1291 : xT.1 286 1291 = some (.ireturn, ((0, 0), ([], []))) := (kT_286 1291).trans rfl
set_option maxRecDepth 100000 in
theorem r_286_1292 : xT.1 286 1292 = some (.iload 6, ((0, 0), ([], []))) := (kT_286 1292).trans rfl
set_option maxRecDepth 100000 in
theorem r_286_1294 : xT.1 286 1294 = some (.ifCond .ne 15, ((1309, 0), ([], []))) := (kT_286 1294).trans rfl
set_option maxRecDepth 100000 in
theorem r_286_1297 : xT.1 286 1297 = some (.aload_n 3, ((0, 0), ([], []))) := (kT_286 1297).trans rfl
set_option maxRecDepth 100000 in
theorem r_286_1298 : xT.1 286 1298 = some (.iconst 0, ((0, 0), ([.int 0], []))) := (kT_286 1298).trans rfl
set_option maxRecDepth 100000 in
theorem r_286_1299 : xT.1 286 1299 = some (.laload, ((0, 0), ([], []))) := (kT_286 1299).trans rfl
set_option maxRecDepth 100000 in
theorem r_286_1300 : xT.1 286 1300 = some (.iload 7, ((0, 0), ([], []))) := (kT_286 1300).trans rfl
set_option maxRecDepth 100000 in
theorem r_286_1302 : xT.1 286 1302 = some (.i2l, ((0, 0), ([], []))) := (kT_286 1302).trans rfl
set_option maxRecDepth 100000 in
theorem r_286_1303 : xT.1 286 1303 = some (.lcmp, ((0, 0), ([], []))) := (kT_286 1303).trans rfl
set_option maxRecDepth 100000 in
theorem r_286_1304 : xT.1 286 1304 = some (.ifCond .eq 5, ((1309, 0), ([], []))) := (kT_286 1304).trans rfl
set_option maxRecDepth 100000 in
theorem r_286_1307 : xT.1 286 1307 = some (.iconst 0, ((0, 0), ([.int 0], []))) := (kT_286 1307).trans rfl
set_option maxRecDepth 100000 in
theorem r_286_1308 : xT.1 286 1308 = some (.ireturn, ((0, 0), ([], []))) := (kT_286 1308).trans rfl
set_option maxRecDepth 100000 in
theorem r_286_1309 : xT.1 286 1309 = some (.goto 1588, ((2897, 0), ([], []))) := (kT_286 1309).trans rfl
set_option maxRecDepth 100000 in
theorem r_286_1312 : xT.1 286 1312 = some (.aload_n 1, ((0, 0), ([], []))) := (kT_286 1312).trans rfl
set_option maxRecDepth 100000 in
theorem r_286_1313 : xT.1 286 1313 = some (.aload_n 0, ((0, 0), ([], []))) := (kT_286 1313).trans rfl
set_option maxRecDepth 100000 in
theorem r_286_1314 : xT.1 286 1314 = some (.iload 5, ((0, 0), ([], []))) := (kT_286 1314).trans rfl
set_option maxRecDepth 100000 in
theorem r_286_1316 : xT.1 286 1316 = some (.iconst 1, ((0, 0), ([.int 1], []))) := (kT_286 1316).trans rfl
set_option maxRecDepth 100000 in
theorem r_286_1317 : xT.1 286 1317 = some (.iadd, ((0, 0), ([], []))) := (kT_286 1317).trans rfl
set_option maxRecDepth 100000 in
theorem r_286_1318 : xT.1 286 1318 = some (.iaload, ((0, 0), ([], []))) := (kT_286 1318).trans rfl
set_option maxRecDepth 100000 in
theorem r_286_1319 : xT.1 286 1319 = some (.aload_n 0, ((0, 0), ([], []))) := (kT_286 1319).trans rfl
set_option maxRecDepth 100000 in
theorem r_286_1320 : xT.1 286 1320 = some (.iload 5, ((0, 0), ([], []))) := (kT_286 1320).trans rfl
set_option maxRecDepth 100000 in
theorem r_286_1322 : xT.1 286 1322 = some (.iconst 2, ((0, 0), ([.int 2], []))) := (kT_286 1322).trans rfl
set_option maxRecDepth 100000 in
theorem r_286_1323 : xT.1 286 1323 = some (.iadd, ((0, 0), ([], []))) := (kT_286 1323).trans rfl
set_option maxRecDepth 100000 in
theorem r_286_1324 : xT.1 286 1324 = some (.iaload, ((0, 0), ([], []))) := (kT_286 1324).trans rfl
set_option maxRecDepth 100000 in
theorem r_286_1325 : xT.1 286 1325 = some (.aload_n 3, ((0, 0), ([], []))) := (kT_286 1325).trans rfl
set_option maxRecDepth 100000 in
theorem r_286_1326 : xT.1 286 1326 = some (.invokestatic 237, ((259, 4), ([], [3]))) := (kT_286 1326).trans rfl
set_option maxRecDepth 100000 in
theorem r_286_1329 : xT.1 286 1329 = some (.istore 6, ((0, 0), ([], []))) := (kT_286 1329).trans rfl
set_option maxRecDepth 100000 in
theorem r_286_1331 : xT.1 286 1331 = some (.aload_n 2, ((0, 0), ([], []))) := (kT_286 1331).trans rfl
set_option maxRecDepth 100000 in
theorem r_286_1332 : xT.1 286 1332 = some (.aload_n 0, ((0, 0), ([], []))) := (kT_286 1332).trans rfl
set_option maxRecDepth 100000 in
theorem r_286_1333 : xT.1 286 1333 = some (.iload 5, ((0, 0), ([], []))) := (kT_286 1333).trans rfl
set_option maxRecDepth 100000 in
theorem r_286_1335 : xT.1 286 1335 = some (.iconst 1, ((0, 0), ([.int 1], []))) := (kT_286 1335).trans rfl
set_option maxRecDepth 100000 in
theorem r_286_1336 : xT.1 286 1336 = some (.iadd, ((0, 0), ([], []))) := (kT_286 1336).trans rfl
set_option maxRecDepth 100000 in
theorem r_286_1337 : xT.1 286 1337 = some (.iaload, ((0, 0), ([], []))) := (kT_286 1337).trans rfl
set_option maxRecDepth 100000 in
theorem r_286_1338 : xT.1 286 1338 = some (.aload_n 0, ((0, 0), ([], []))) := (kT_286 1338).trans rfl
set_option maxRecDepth 100000 in
theorem r_286_1339 : xT.1 286 1339 = some (.iload 5, ((0, 0), ([], []))) := (kT_286 1339).trans rfl
set_option maxRecDepth 100000 in
theorem r_286_1341 : xT.1 286 1341 = some (.iconst 2, ((0, 0), ([.int 2], []))) := (kT_286 1341).trans rfl
set_option maxRecDepth 100000 in
theorem r_286_1342 : xT.1 286 1342 = some (.iadd, ((0, 0), ([], []))) := (kT_286 1342).trans rfl
set_option maxRecDepth 100000 in
theorem r_286_1343 : xT.1 286 1343 = some (.iaload, ((0, 0), ([], []))) := (kT_286 1343).trans rfl
set_option maxRecDepth 100000 in
theorem r_286_1344 : xT.1 286 1344 = some (.invokevirtual 239, ((195, 3), ([], [0]))) := (kT_286 1344).trans rfl
set_option maxRecDepth 100000 in
theorem r_286_1347 : xT.1 286 1347 = some (.istore 7, ((0, 0), ([], []))) := (kT_286 1347).trans rfl
set_option maxRecDepth 100000 in
theorem r_286_1349 : xT.1 286 1349 = some (.aload_n 2, ((0, 0), ([], []))) := (kT_286 1349).trans rfl
set_option maxRecDepth 100000 in
theorem r_286_1350 : xT.1 286 1350 = some (.invokevirtual 170, ((149, 1), ([], [0]))) := (kT_286 1350).trans rfl
set_option maxRecDepth 100000 in
theorem r_286_1353 : xT.1 286 1353 = some (.iload 6, ((0, 0), ([], []))) := (kT_286 1353).trans rfl
set_option maxRecDepth 100000 in
theorem r_286_1355 : xT.1 286 1355 = some (.if_icmp .eq 5, ((1360, 0), ([], []))) := (kT_286 1355).trans rfl
set_option maxRecDepth 100000 in
theorem r_286_1358 : xT.1 286 1358 = some (.iconst 0, ((0, 0), ([.int 0], []))) := (kT_286 1358).trans rfl
set_option maxRecDepth 100000 in
theorem r_286_1359 : xT.1 286 1359 = some (.ireturn, ((0, 0), ([], []))) := (kT_286 1359).trans rfl
set_option maxRecDepth 100000 in
theorem r_286_1360 : xT.1 286 1360 = some (.iload 6, ((0, 0), ([], []))) := (kT_286 1360).trans rfl
set_option maxRecDepth 100000 in
theorem r_286_1362 : xT.1 286 1362 = some (.ifCond .ne 15, ((1377, 0), ([], []))) := (kT_286 1362).trans rfl
set_option maxRecDepth 100000 in
theorem r_286_1365 : xT.1 286 1365 = some (.aload_n 3, ((0, 0), ([], []))) := (kT_286 1365).trans rfl
set_option maxRecDepth 100000 in
theorem r_286_1366 : xT.1 286 1366 = some (.iconst 0, ((0, 0), ([.int 0], []))) := (kT_286 1366).trans rfl
set_option maxRecDepth 100000 in
theorem r_286_1367 : xT.1 286 1367 = some (.laload, ((0, 0), ([], []))) := (kT_286 1367).trans rfl
set_option maxRecDepth 100000 in
theorem r_286_1368 : xT.1 286 1368 = some (.iload 7, ((0, 0), ([], []))) := (kT_286 1368).trans rfl
set_option maxRecDepth 100000 in
theorem r_286_1370 : xT.1 286 1370 = some (.i2l, ((0, 0), ([], []))) := (kT_286 1370).trans rfl
set_option maxRecDepth 100000 in
theorem r_286_1371 : xT.1 286 1371 = some (.lcmp, ((0, 0), ([], []))) := (kT_286 1371).trans rfl
set_option maxRecDepth 100000 in
theorem r_286_1372 : xT.1 286 1372 = some (.ifCond .eq 5, ((1377, 0), ([], []))) := (kT_286 1372).trans rfl
set_option maxRecDepth 100000 in
theorem r_286_1375 : xT.1 286 1375 = some (.iconst 0, ((0, 0), ([.int 0], []))) := (kT_286 1375).trans rfl
set_option maxRecDepth 100000 in
theorem r_286_1376 : xT.1 286 1376 = some (.ireturn, ((0, 0), ([], []))) := (kT_286 1376).trans rfl
set_option maxRecDepth 100000 in
theorem r_286_1377 : xT.1 286 1377 = some (.goto 1520, ((2897, 0), ([], []))) := (kT_286 1377).trans rfl
set_option maxRecDepth 100000 in
theorem r_286_1380 : xT.1 286 1380 = some (.aload_n 1, ((0, 0), ([], []))) := (kT_286 1380).trans rfl
set_option maxRecDepth 100000 in
theorem r_286_1381 : xT.1 286 1381 = some (.aload_n 0, ((0, 0), ([], []))) := (kT_286 1381).trans rfl
set_option maxRecDepth 100000 in
theorem r_286_1382 : xT.1 286 1382 = some (.iload 5, ((0, 0), ([], []))) := (kT_286 1382).trans rfl
set_option maxRecDepth 100000 in
theorem r_286_1384 : xT.1 286 1384 = some (.iconst 1, ((0, 0), ([.int 1], []))) := (kT_286 1384).trans rfl
set_option maxRecDepth 100000 in
theorem r_286_1385 : xT.1 286 1385 = some (.iadd, ((0, 0), ([], []))) := (kT_286 1385).trans rfl
set_option maxRecDepth 100000 in
theorem r_286_1386 : xT.1 286 1386 = some (.iaload, ((0, 0), ([], []))) := (kT_286 1386).trans rfl
set_option maxRecDepth 100000 in
theorem r_286_1387 : xT.1 286 1387 = some (.aload_n 0, ((0, 0), ([], []))) := (kT_286 1387).trans rfl
set_option maxRecDepth 100000 in
theorem r_286_1388 : xT.1 286 1388 = some (.iload 5, ((0, 0), ([], []))) := (kT_286 1388).trans rfl
set_option maxRecDepth 100000 in
theorem r_286_1390 : xT.1 286 1390 = some (.iconst 2, ((0, 0), ([.int 2], []))) := (kT_286 1390).trans rfl
set_option maxRecDepth 100000 in
theorem r_286_1391 : xT.1 286 1391 = some (.iadd, ((0, 0), ([], []))) := (kT_286 1391).trans rfl
set_option maxRecDepth 100000 in
theorem r_286_1392 : xT.1 286 1392 = some (.iaload, ((0, 0), ([], []))) := (kT_286 1392).trans rfl
set_option maxRecDepth 100000 in
theorem r_286_1393 : xT.1 286 1393 = some (.aload_n 3, ((0, 0), ([], []))) := (kT_286 1393).trans rfl
set_option maxRecDepth 100000 in
theorem r_286_1394 : xT.1 286 1394 = some (.invokestatic 240, ((260, 4), ([], [3]))) := (kT_286 1394).trans rfl
set_option maxRecDepth 100000 in
theorem r_286_1397 : xT.1 286 1397 = some (.istore 6, ((0, 0), ([], []))) := (kT_286 1397).trans rfl
set_option maxRecDepth 100000 in
theorem r_286_1399 : xT.1 286 1399 = some (.aload_n 2, ((0, 0), ([], []))) := (kT_286 1399).trans rfl
set_option maxRecDepth 100000 in
theorem r_286_1400 : xT.1 286 1400 = some (.aload_n 0, ((0, 0), ([], []))) := (kT_286 1400).trans rfl
set_option maxRecDepth 100000 in
theorem r_286_1401 : xT.1 286 1401 = some (.iload 5, ((0, 0), ([], []))) := (kT_286 1401).trans rfl
set_option maxRecDepth 100000 in
theorem r_286_1403 : xT.1 286 1403 = some (.iconst 1, ((0, 0), ([.int 1], []))) := (kT_286 1403).trans rfl
set_option maxRecDepth 100000 in
theorem r_286_1404 : xT.1 286 1404 = some (.iadd, ((0, 0), ([], []))) := (kT_286 1404).trans rfl
set_option maxRecDepth 100000 in
theorem r_286_1405 : xT.1 286 1405 = some (.iaload, ((0, 0), ([], []))) := (kT_286 1405).trans rfl
set_option maxRecDepth 100000 in
theorem r_286_1406 : xT.1 286 1406 = some (.aload_n 0, ((0, 0), ([], []))) := (kT_286 1406).trans rfl
set_option maxRecDepth 100000 in
theorem r_286_1407 : xT.1 286 1407 = some (.iload 5, ((0, 0), ([], []))) := (kT_286 1407).trans rfl
set_option maxRecDepth 100000 in
theorem r_286_1409 : xT.1 286 1409 = some (.iconst 2, ((0, 0), ([.int 2], []))) := (kT_286 1409).trans rfl
set_option maxRecDepth 100000 in
theorem r_286_1410 : xT.1 286 1410 = some (.iadd, ((0, 0), ([], []))) := (kT_286 1410).trans rfl
set_option maxRecDepth 100000 in
theorem r_286_1411 : xT.1 286 1411 = some (.iaload, ((0, 0), ([], []))) := (kT_286 1411).trans rfl
set_option maxRecDepth 100000 in
theorem r_286_1412 : xT.1 286 1412 = some (.invokevirtual 242, ((196, 3), ([], [0]))) := (kT_286 1412).trans rfl
set_option maxRecDepth 100000 in
theorem r_286_1415 : xT.1 286 1415 = some (.istore 7, ((0, 0), ([], []))) := (kT_286 1415).trans rfl
set_option maxRecDepth 100000 in
theorem r_286_1417 : xT.1 286 1417 = some (.aload_n 2, ((0, 0), ([], []))) := (kT_286 1417).trans rfl
set_option maxRecDepth 100000 in
theorem r_286_1418 : xT.1 286 1418 = some (.invokevirtual 170, ((149, 1), ([], [0]))) := (kT_286 1418).trans rfl
set_option maxRecDepth 100000 in
theorem r_286_1421 : xT.1 286 1421 = some (.iload 6, ((0, 0), ([], []))) := (kT_286 1421).trans rfl
set_option maxRecDepth 100000 in
theorem r_286_1423 : xT.1 286 1423 = some (.if_icmp .eq 5, ((1428, 0), ([], []))) := (kT_286 1423).trans rfl
set_option maxRecDepth 100000 in
theorem r_286_1426 : xT.1 286 1426 = some (.iconst 0, ((0, 0), ([.int 0], []))) := (kT_286 1426).trans rfl
set_option maxRecDepth 100000 in
theorem r_286_1427 : xT.1 286 1427 = some (.ireturn, ((0, 0), ([], []))) := (kT_286 1427).trans rfl
set_option maxRecDepth 100000 in
theorem r_286_1428 : xT.1 286 1428 = some (.iload 6, ((0, 0), ([], []))) := (kT_286 1428).trans rfl
set_option maxRecDepth 100000 in
theorem r_286_1430 : xT.1 286 1430 = some (.ifCond .ne 15, ((1445, 0), ([], []))) := (kT_286 1430).trans rfl
set_option maxRecDepth 100000 in
theorem r_286_1433 : xT.1 286 1433 = some (.aload_n 3, ((0, 0), ([], []))) := (kT_286 1433).trans rfl
set_option maxRecDepth 100000 in
theorem r_286_1434 : xT.1 286 1434 = some (.iconst 0, ((0, 0), ([.int 0], []))) := (kT_286 1434).trans rfl
set_option maxRecDepth 100000 in
theorem r_286_1435 : xT.1 286 1435 = some (.laload, ((0, 0), ([], []))) := (kT_286 1435).trans rfl
set_option maxRecDepth 100000 in
theorem r_286_1436 : xT.1 286 1436 = some (.iload 7, ((0, 0), ([], []))) := (kT_286 1436).trans rfl
set_option maxRecDepth 100000 in
theorem r_286_1438 : xT.1 286 1438 = some (.i2l, ((0, 0), ([], []))) := (kT_286 1438).trans rfl
set_option maxRecDepth 100000 in
theorem r_286_1439 : xT.1 286 1439 = some (.lcmp, ((0, 0), ([], []))) := (kT_286 1439).trans rfl
set_option maxRecDepth 100000 in
theorem r_286_1440 : xT.1 286 1440 = some (.ifCond .eq 5, ((1445, 0), ([], []))) := (kT_286 1440).trans rfl
set_option maxRecDepth 100000 in
theorem r_286_1443 : xT.1 286 1443 = some (.iconst 0, ((0, 0), ([.int 0], []))) := (kT_286 1443).trans rfl
set_option maxRecDepth 100000 in
theorem r_286_1444 : xT.1 286 1444 = some (.ireturn, ((0, 0), ([], []))) := (kT_286 1444).trans rfl
set_option maxRecDepth 100000 in
theorem r_286_1445 : xT.1 286 1445 = some (.goto 1452, ((2897, 0), ([], []))) := (kT_286 1445).trans rfl
set_option maxRecDepth 100000 in
theorem r_286_1448 : xT.1 286 1448 = some (.aload_n 1, ((0, 0), ([], []))) := (kT_286 1448).trans rfl
set_option maxRecDepth 100000 in
theorem r_286_1449 : xT.1 286 1449 = some (.aload_n 0, ((0, 0), ([], []))) := (kT_286 1449).trans rfl
set_option maxRecDepth 100000 in
theorem r_286_1450 : xT.1 286 1450 = some (.iload 5, ((0, 0), ([], []))) := (kT_286 1450).trans rfl
set_option maxRecDepth 100000 in
theorem r_286_1452 : xT.1 286 1452 = some (.iconst 1, ((0, 0), ([.int 1], []))) := (kT_286 1452).trans rfl
set_option maxRecDepth 100000 in
theorem r_286_1453 : xT.1 286 1453 = some (.iadd, ((0, 0), ([], []))) := (kT_286 1453).trans rfl
set_option maxRecDepth 100000 in
theorem r_286_1454 : xT.1 286 1454 = some (.iaload, ((0, 0), ([], []))) := (kT_286 1454).trans rfl
set_option maxRecDepth 100000 in
theorem r_286_1455 : xT.1 286 1455 = some (.aload_n 0, ((0, 0), ([], []))) := (kT_286 1455).trans rfl
set_option maxRecDepth 100000 in
theorem r_286_1456 : xT.1 286 1456 = some (.iload 5, ((0, 0), ([], []))) := (kT_286 1456).trans rfl
set_option maxRecDepth 100000 in
theorem r_286_1458 : xT.1 286 1458 = some (.iconst 2, ((0, 0), ([.int 2], []))) := (kT_286 1458).trans rfl
set_option maxRecDepth 100000 in
theorem r_286_1459 : xT.1 286 1459 = some (.iadd, ((0, 0), ([], []))) := (kT_286 1459).trans rfl
set_option maxRecDepth 100000 in
theorem r_286_1460 : xT.1 286 1460 = some (.iaload, ((0, 0), ([], []))) := (kT_286 1460).trans rfl
set_option maxRecDepth 100000 in
theorem r_286_1461 : xT.1 286 1461 = some (.aload_n 3, ((0, 0), ([], []))) := (kT_286 1461).trans rfl
set_option maxRecDepth 100000 in
theorem r_286_1462 : xT.1 286 1462 = some (.invokestatic 243, ((261, 4), ([], [3]))) := (kT_286 1462).trans rfl
set_option maxRecDepth 100000 in
theorem r_286_1465 : xT.1 286 1465 = some (.istore 6, ((0, 0), ([], []))) := (kT_286 1465).trans rfl
set_option maxRecDepth 100000 in
theorem r_286_1467 : xT.1 286 1467 = some (.aload_n 2, ((0, 0), ([], []))) := (kT_286 1467).trans rfl
set_option maxRecDepth 100000 in
theorem r_286_1468 : xT.1 286 1468 = some (.aload_n 0, ((0, 0), ([], []))) := (kT_286 1468).trans rfl
set_option maxRecDepth 100000 in
theorem r_286_1469 : xT.1 286 1469 = some (.iload 5, ((0, 0), ([], []))) := (kT_286 1469).trans rfl
set_option maxRecDepth 100000 in
theorem r_286_1471 : xT.1 286 1471 = some (.iconst 1, ((0, 0), ([.int 1], []))) := (kT_286 1471).trans rfl
set_option maxRecDepth 100000 in
theorem r_286_1472 : xT.1 286 1472 = some (.iadd, ((0, 0), ([], []))) := (kT_286 1472).trans rfl
set_option maxRecDepth 100000 in
theorem r_286_1473 : xT.1 286 1473 = some (.iaload, ((0, 0), ([], []))) := (kT_286 1473).trans rfl
set_option maxRecDepth 100000 in
theorem r_286_1474 : xT.1 286 1474 = some (.aload_n 0, ((0, 0), ([], []))) := (kT_286 1474).trans rfl
set_option maxRecDepth 100000 in
theorem r_286_1475 : xT.1 286 1475 = some (.iload 5, ((0, 0), ([], []))) := (kT_286 1475).trans rfl
set_option maxRecDepth 100000 in
theorem r_286_1477 : xT.1 286 1477 = some (.iconst 2, ((0, 0), ([.int 2], []))) := (kT_286 1477).trans rfl
set_option maxRecDepth 100000 in
theorem r_286_1478 : xT.1 286 1478 = some (.iadd, ((0, 0), ([], []))) := (kT_286 1478).trans rfl
set_option maxRecDepth 100000 in
theorem r_286_1479 : xT.1 286 1479 = some (.iaload, ((0, 0), ([], []))) := (kT_286 1479).trans rfl
set_option maxRecDepth 100000 in
theorem r_286_1480 : xT.1 286 1480 = some (.invokevirtual 245, ((197, 3), ([], [0]))) := (kT_286 1480).trans rfl
set_option maxRecDepth 100000 in
theorem r_286_1483 : xT.1 286 1483 = some (.istore 7, ((0, 0), ([], []))) := (kT_286 1483).trans rfl
set_option maxRecDepth 100000 in
theorem r_286_1485 : xT.1 286 1485 = some (.aload_n 2, ((0, 0), ([], []))) := (kT_286 1485).trans rfl
set_option maxRecDepth 100000 in
theorem r_286_1486 : xT.1 286 1486 = some (.invokevirtual 170, ((149, 1), ([], [0]))) := (kT_286 1486).trans rfl
set_option maxRecDepth 100000 in
theorem r_286_1489 : xT.1 286 1489 = some (.iload 6, ((0, 0), ([], []))) := (kT_286 1489).trans rfl
set_option maxRecDepth 100000 in
theorem r_286_1491 : xT.1 286 1491 = some (.if_icmp .eq 5, ((1496, 0), ([], []))) := (kT_286 1491).trans rfl
set_option maxRecDepth 100000 in
theorem r_286_1494 : xT.1 286 1494 = some (.iconst 0, ((0, 0), ([.int 0], []))) := (kT_286 1494).trans rfl
set_option maxRecDepth 100000 in
theorem r_286_1495 : xT.1 286 1495 = some (.ireturn, ((0, 0), ([], []))) := (kT_286 1495).trans rfl
set_option maxRecDepth 100000 in
theorem r_286_1496 : xT.1 286 1496 = some (.iload 6, ((0, 0), ([], []))) := (kT_286 1496).trans rfl
set_option maxRecDepth 100000 in
theorem r_286_1498 : xT.1 286 1498 = some (.ifCond .ne 15, ((1513, 0), ([], []))) := (kT_286 1498).trans rfl
set_option maxRecDepth 100000 in
theorem r_286_1501 : xT.1 286 1501 = some (.aload_n 3, ((0, 0), ([], []))) := (kT_286 1501).trans rfl
set_option maxRecDepth 100000 in
theorem r_286_1502 : xT.1 286 1502 = some (.iconst 0, ((0, 0), ([.int 0], []))) := (kT_286 1502).trans rfl
set_option maxRecDepth 100000 in
theorem r_286_1503 : xT.1 286 1503 = some (.laload, ((0, 0), ([], []))) := (kT_286 1503).trans rfl
set_option maxRecDepth 100000 in
theorem r_286_1504 : xT.1 286 1504 = some (.iload 7, ((0, 0), ([], []))) := (kT_286 1504).trans rfl
set_option maxRecDepth 100000 in
theorem r_286_1506 : xT.1 286 1506 = some (.i2l, ((0, 0), ([], []))) := (kT_286 1506).trans rfl
set_option maxRecDepth 100000 in
theorem r_286_1507 : xT.1 286 1507 = some (.lcmp, ((0, 0), ([], []))) := (kT_286 1507).trans rfl
set_option maxRecDepth 100000 in
theorem r_286_1508 : xT.1 286 1508 = some (.ifCond .eq 5, ((1513, 0), ([], []))) := (kT_286 1508).trans rfl
set_option maxRecDepth 100000 in
theorem r_286_1511 : xT.1 286 1511 = some (.iconst 0, ((0, 0), ([.int 0], []))) := (kT_286 1511).trans rfl
set_option maxRecDepth 100000 in
theorem r_286_1512 : xT.1 286 1512 = some (.ireturn, ((0, 0), ([], []))) := (kT_286 1512).trans rfl
set_option maxRecDepth 100000 in
theorem r_286_1513 : xT.1 286 1513 = some (.goto 1384, ((2897, 0), ([], []))) := (kT_286 1513).trans rfl
set_option maxRecDepth 100000 in
theorem r_286_1516 : xT.1 286 1516 = some (.aload_n 1, ((0, 0), ([], []))) := (kT_286 1516).trans rfl
set_option maxRecDepth 100000 in
theorem r_286_1517 : xT.1 286 1517 = some (.aload_n 0, ((0, 0), ([], []))) := (kT_286 1517).trans rfl
set_option maxRecDepth 100000 in
theorem r_286_1518 : xT.1 286 1518 = some (.iload 5, ((0, 0), ([], []))) := (kT_286 1518).trans rfl
set_option maxRecDepth 100000 in
theorem r_286_1520 : xT.1 286 1520 = some (.iconst 1, ((0, 0), ([.int 1], []))) := (kT_286 1520).trans rfl
set_option maxRecDepth 100000 in
theorem r_286_1521 : xT.1 286 1521 = some (.iadd, ((0, 0), ([], []))) := (kT_286 1521).trans rfl
set_option maxRecDepth 100000 in
theorem r_286_1522 : xT.1 286 1522 = some (.iaload, ((0, 0), ([], []))) := (kT_286 1522).trans rfl
set_option maxRecDepth 100000 in
theorem r_286_1523 : xT.1 286 1523 = some (.aload_n 0, ((0, 0), ([], []))) := (kT_286 1523).trans rfl
set_option maxRecDepth 100000 in
theorem r_286_1524 : xT.1 286 1524 = some (.iload 5, ((0, 0), ([], []))) := (kT_286 1524).trans rfl
set_option maxRecDepth 100000 in
theorem r_286_1526 : xT.1 286 1526 = some (.iconst 2, ((0, 0), ([.int 2], []))) := (kT_286 1526).trans rfl
set_option maxRecDepth 100000 in
theorem r_286_1527 : xT.1 286 1527 = some (.iadd, ((0, 0), ([], []))) := (kT_286 1527).trans rfl
set_option maxRecDepth 100000 in
theorem r_286_1528 : xT.1 286 1528 = some (.iaload, ((0, 0), ([], []))) := (kT_286 1528).trans rfl
set_option maxRecDepth 100000 in
theorem r_286_1529 : xT.1 286 1529 = some (.aload_n 3, ((0, 0), ([], []))) := (kT_286 1529).trans rfl
set_option maxRecDepth 100000 in
theorem r_286_1530 : xT.1 286 1530 = some (.invokestatic 246, ((262, 4), ([], [3]))) := (kT_286 1530).trans rfl
set_option maxRecDepth 100000 in
theorem r_286_1533 : xT.1 286 1533 = some (.istore 6, ((0, 0), ([], []))) := (kT_286 1533).trans rfl
set_option maxRecDepth 100000 in
theorem r_286_1535 : xT.1 286 1535 = some (.aload_n 2, ((0, 0), ([], []))) := (kT_286 1535).trans rfl
set_option maxRecDepth 100000 in
theorem r_286_1536 : xT.1 286 1536 = some (.aload_n 0, ((0, 0), ([], []))) := (kT_286 1536).trans rfl
set_option maxRecDepth 100000 in
theorem r_286_1537 : xT.1 286 1537 = some (.iload 5, ((0, 0), ([], []))) := (kT_286 1537).trans rfl
set_option maxRecDepth 100000 in
theorem r_286_1539 : xT.1 286 1539 = some (.iconst 1, ((0, 0), ([.int 1], []))) := (kT_286 1539).trans rfl
set_option maxRecDepth 100000 in
theorem r_286_1540 : xT.1 286 1540 = some (.iadd, ((0, 0), ([], []))) := (kT_286 1540).trans rfl
set_option maxRecDepth 100000 in
theorem r_286_1541 : xT.1 286 1541 = some (.iaload, ((0, 0), ([], []))) := (kT_286 1541).trans rfl
set_option maxRecDepth 100000 in
theorem r_286_1542 : xT.1 286 1542 = some (.aload_n 0, ((0, 0), ([], []))) := (kT_286 1542).trans rfl
set_option maxRecDepth 100000 in
theorem r_286_1543 : xT.1 286 1543 = some (.iload 5, ((0, 0), ([], []))) := (kT_286 1543).trans rfl
set_option maxRecDepth 100000 in
theorem r_286_1545 : xT.1 286 1545 = some (.iconst 2, ((0, 0), ([.int 2], []))) := (kT_286 1545).trans rfl
set_option maxRecDepth 100000 in
theorem r_286_1546 : xT.1 286 1546 = some (.iadd, ((0, 0), ([], []))) := (kT_286 1546).trans rfl
set_option maxRecDepth 100000 in
theorem r_286_1547 : xT.1 286 1547 = some (.iaload, ((0, 0), ([], []))) := (kT_286 1547).trans rfl
set_option maxRecDepth 100000 in
theorem r_286_1548 : xT.1 286 1548 = some (.invokevirtual 248, ((199, 3), ([], [0]))) := (kT_286 1548).trans rfl
set_option maxRecDepth 100000 in
theorem r_286_1551 : xT.1 286 1551 = some (.istore 7, ((0, 0), ([], []))) := (kT_286 1551).trans rfl
set_option maxRecDepth 100000 in
theorem r_286_1553 : xT.1 286 1553 = some (.aload_n 2, ((0, 0), ([], []))) := (kT_286 1553).trans rfl
set_option maxRecDepth 100000 in
theorem r_286_1554 : xT.1 286 1554 = some (.invokevirtual 170, ((149, 1), ([], [0]))) := (kT_286 1554).trans rfl
set_option maxRecDepth 100000 in
theorem r_286_1557 : xT.1 286 1557 = some (.iload 6, ((0, 0), ([], []))) := (kT_286 1557).trans rfl
set_option maxRecDepth 100000 in
theorem r_286_1559 : xT.1 286 1559 = some (.if_icmp .eq 5, ((1564, 0), ([], []))) := (kT_286 1559).trans rfl
set_option maxRecDepth 100000 in
theorem r_286_1562 : xT.1 286 1562 = some (.iconst 0, ((0, 0), ([.int 0], []))) := (kT_286 1562).trans rfl
set_option maxRecDepth 100000 in
theorem r_286_1563 : xT.1 286 1563 = some (.ireturn, ((0, 0), ([], []))) := (kT_286 1563).trans rfl
set_option maxRecDepth 100000 in
theorem r_286_1564 : xT.1 286 1564 = some (.iload 6, ((0, 0), ([], []))) := (kT_286 1564).trans rfl
set_option maxRecDepth 100000 in
theorem r_286_1566 : xT.1 286 1566 = some (.ifCond .ne 15, ((1581, 0), ([], []))) := (kT_286 1566).trans rfl
set_option maxRecDepth 100000 in
theorem r_286_1569 : xT.1 286 1569 = some (.aload_n 3, ((0, 0), ([], []))) := (kT_286 1569).trans rfl
set_option maxRecDepth 100000 in
theorem r_286_1570 : xT.1 286 1570 = some (.iconst 0, ((0, 0), ([.int 0], []))) := (kT_286 1570).trans rfl
set_option maxRecDepth 100000 in
theorem r_286_1571 : xT.1 286 1571 = some (.laload, ((0, 0), ([], []))) := (kT_286 1571).trans rfl
set_option maxRecDepth 100000 in
theorem r_286_1572 : xT.1 286 1572 = some (.iload 7, ((0, 0), ([], []))) := (kT_286 1572).trans rfl
set_option maxRecDepth 100000 in
theorem r_286_1574 : xT.1 286 1574 = some (.i2l, ((0, 0), ([], []))) := (kT_286 1574).trans rfl
set_option maxRecDepth 100000 in
theorem r_286_1575 : xT.1 286 1575 = some (.lcmp, ((0, 0), ([], []))) := (kT_286 1575).trans rfl
set_option maxRecDepth 100000 in
theorem r_286_1576 : xT.1 286 1576 = some (.ifCond .eq 5, ((1581, 0), ([], []))) := (kT_286 1576).trans rfl
set_option maxRecDepth 100000 in
theorem r_286_1579 : xT.1 286 1579 = some (.iconst 0, ((0, 0), ([.int 0], []))) := (kT_286 1579).trans rfl
set_option maxRecDepth 100000 in
theorem r_286_1580 : xT.1 286 1580 = some (.ireturn, ((0, 0), ([], []))) := (kT_286 1580).trans rfl
set_option maxRecDepth 100000 in
theorem r_286_1581 : xT.1 286 1581 = some (.goto 1316, ((2897, 0), ([], []))) := (kT_286 1581).trans rfl
set_option maxRecDepth 100000 in
theorem r_286_1584 : xT.1 286 1584 = some (.aload_n 1, ((0, 0), ([], []))) := (kT_286 1584).trans rfl
set_option maxRecDepth 100000 in
theorem r_286_1585 : xT.1 286 1585 = some (.aload_n 0, ((0, 0), ([], []))) := (kT_286 1585).trans rfl
set_option maxRecDepth 100000 in
theorem r_286_1586 : xT.1 286 1586 = some (.iload 5, ((0, 0), ([], []))) := (kT_286 1586).trans rfl
set_option maxRecDepth 100000 in
theorem r_286_1588 : xT.1 286 1588 = some (.iconst 1, ((0, 0), ([.int 1], []))) := (kT_286 1588).trans rfl
set_option maxRecDepth 100000 in
theorem r_286_1589 : xT.1 286 1589 = some (.iadd, ((0, 0), ([], []))) := (kT_286 1589).trans rfl
set_option maxRecDepth 100000 in
theorem r_286_1590 : xT.1 286 1590 = some (.iaload, ((0, 0), ([], []))) := (kT_286 1590).trans rfl
set_option maxRecDepth 100000 in
theorem r_286_1591 : xT.1 286 1591 = some (.aload_n 3, ((0, 0), ([], []))) := (kT_286 1591).trans rfl
set_option maxRecDepth 100000 in
theorem r_286_1592 : xT.1 286 1592 = some (.invokestatic 249, ((263, 3), ([], [3]))) := (kT_286 1592).trans rfl
set_option maxRecDepth 100000 in
theorem r_286_1595 : xT.1 286 1595 = some (.istore 6, ((0, 0), ([], []))) := (kT_286 1595).trans rfl
set_option maxRecDepth 100000 in
theorem r_286_1597 : xT.1 286 1597 = some (.aload_n 2, ((0, 0), ([], []))) := (kT_286 1597).trans rfl
set_option maxRecDepth 100000 in
theorem r_286_1598 : xT.1 286 1598 = some (.aload_n 0, ((0, 0), ([], []))) := (kT_286 1598).trans rfl
set_option maxRecDepth 100000 in
theorem r_286_1599 : xT.1 286 1599 = some (.iload 5, ((0, 0), ([], []))) := (kT_286 1599).trans rfl
set_option maxRecDepth 100000 in
theorem r_286_1601 : xT.1 286 1601 = some (.iconst 1, ((0, 0), ([.int 1], []))) := (kT_286 1601).trans rfl
set_option maxRecDepth 100000 in
theorem r_286_1602 : xT.1 286 1602 = some (.iadd, ((0, 0), ([], []))) := (kT_286 1602).trans rfl
set_option maxRecDepth 100000 in
theorem r_286_1603 : xT.1 286 1603 = some (.iaload, ((0, 0), ([], []))) := (kT_286 1603).trans rfl
set_option maxRecDepth 100000 in
theorem r_286_1604 : xT.1 286 1604 = some (.invokevirtual 251, ((200, 2), ([], [0]))) := (kT_286 1604).trans rfl
set_option maxRecDepth 100000 in
theorem r_286_1607 : xT.1 286 1607 = some (.istore 7, ((0, 0), ([], []))) := (kT_286 1607).trans rfl
set_option maxRecDepth 100000 in
theorem r_286_1609 : xT.1 286 1609 = some (.aload_n 2, ((0, 0), ([], []))) := (kT_286 1609).trans rfl
set_option maxRecDepth 100000 in
theorem r_286_1610 : xT.1 286 1610 = some (.invokevirtual 170, ((149, 1), ([], [0]))) := (kT_286 1610).trans rfl
set_option maxRecDepth 100000 in
theorem r_286_1613 : xT.1 286 1613 = some (.iload 6, ((0, 0), ([], []))) := (kT_286 1613).trans rfl
set_option maxRecDepth 100000 in
theorem r_286_1615 : xT.1 286 1615 = some (.if_icmp .eq 5, ((1620, 0), ([], []))) := (kT_286 1615).trans rfl
set_option maxRecDepth 100000 in
theorem r_286_1618 : xT.1 286 1618 = some (.iconst 0, ((0, 0), ([.int 0], []))) := (kT_286 1618).trans rfl
set_option maxRecDepth 100000 in
theorem r_286_1619 : xT.1 286 1619 = some (.ireturn, ((0, 0), ([], []))) := (kT_286 1619).trans rfl
set_option maxRecDepth 100000 in
theorem r_286_1620 : xT.1 286 1620 = some (.iload 6, ((0, 0), ([], []))) := (kT_286 1620).trans rfl
set_option maxRecDepth 100000 in
theorem r_286_1622 : xT.1 286 1622 = some (.ifCond .ne 15, ((1637, 0), ([], []))) := (kT_286 1622).trans rfl
set_option maxRecDepth 100000 in
theorem r_286_1625 : xT.1 286 1625 = some (.aload_n 3, ((0, 0), ([], []))) := (kT_286 1625).trans rfl
set_option maxRecDepth 100000 in
theorem r_286_1626 : xT.1 286 1626 = some (.iconst 0, ((0, 0), ([.int 0], []))) := (kT_286 1626).trans rfl
set_option maxRecDepth 100000 in
theorem r_286_1627 : xT.1 286 1627 = some (.laload, ((0, 0), ([], []))) := (kT_286 1627).trans rfl
set_option maxRecDepth 100000 in
theorem r_286_1628 : xT.1 286 1628 = some (.iload 7, ((0, 0), ([], []))) := (kT_286 1628).trans rfl
set_option maxRecDepth 100000 in
theorem r_286_1630 : xT.1 286 1630 = some (.i2l, ((0, 0), ([], []))) := (kT_286 1630).trans rfl
set_option maxRecDepth 100000 in
theorem r_286_1631 : xT.1 286 1631 = some (.lcmp, ((0, 0), ([], []))) := (kT_286 1631).trans rfl
set_option maxRecDepth 100000 in
theorem r_286_1632 : xT.1 286 1632 = some (.ifCond .eq 5, ((1637, 0), ([], []))) := (kT_286 1632).trans rfl
set_option maxRecDepth 100000 in
theorem r_286_1635 : xT.1 286 1635 = some (.iconst 0, ((0, 0), ([.int 0], []))) := (kT_286 1635).trans rfl
set_option maxRecDepth 100000 in
theorem r_286_1636 : xT.1 286 1636 = some (.ireturn, ((0, 0), ([], []))) := (kT_286 1636).trans rfl
set_option maxRecDepth 100000 in
theorem r_286_1637 : xT.1 286 1637 = some (.goto 1260, ((2897, 0), ([], []))) := (kT_286 1637).trans rfl
set_option maxRecDepth 100000 in
theorem r_286_1640 : xT.1 286 1640 = some (.aload_n 1, ((0, 0), ([], []))) := (kT_286 1640).trans rfl
set_option maxRecDepth 100000 in
theorem r_286_1641 : xT.1 286 1641 = some (.aload_n 0, ((0, 0), ([], []))) := (kT_286 1641).trans rfl
set_option maxRecDepth 100000 in
theorem r_286_1642 : xT.1 286 1642 = some (.iload 5, ((0, 0), ([], []))) := (kT_286 1642).trans rfl
set_option maxRecDepth 100000 in
theorem r_286_1644 : xT.1 286 1644 = some (.iconst 1, ((0, 0), ([.int 1], []))) := (kT_286 1644).trans rfl
set_option maxRecDepth 100000 in
theorem r_286_1645 : xT.1 286 1645 = some (.iadd, ((0, 0), ([], []))) := (kT_286 1645).trans rfl
set_option maxRecDepth 100000 in
theorem r_286_1646 : xT.1 286 1646 = some (.iaload, ((0, 0), ([], []))) := (kT_286 1646).trans rfl
set_option maxRecDepth 100000 in
theorem r_286_1647 : xT.1 286 1647 = some (.aload_n 3, ((0, 0), ([], []))) := (kT_286 1647).trans rfl
set_option maxRecDepth 100000 in
theorem r_286_1648 : xT.1 286 1648 = some (.invokestatic 252, ((264, 3), ([], [3]))) := (kT_286 1648).trans rfl
set_option maxRecDepth 100000 in
theorem r_286_1651 : xT.1 286 1651 = some (.istore 6, ((0, 0), ([], []))) := (kT_286 1651).trans rfl
set_option maxRecDepth 100000 in
theorem r_286_1653 : xT.1 286 1653 = some (.aload_n 2, ((0, 0), ([], []))) := (kT_286 1653).trans rfl
set_option maxRecDepth 100000 in
theorem r_286_1654 : xT.1 286 1654 = some (.aload_n 0, ((0, 0), ([], []))) := (kT_286 1654).trans rfl
set_option maxRecDepth 100000 in
theorem r_286_1655 : xT.1 286 1655 = some (.iload 5, ((0, 0), ([], []))) := (kT_286 1655).trans rfl
set_option maxRecDepth 100000 in
theorem r_286_1657 : xT.1 286 1657 = some (.iconst 1, ((0, 0), ([.int 1], []))) := (kT_286 1657).trans rfl
set_option maxRecDepth 100000 in
theorem r_286_1658 : xT.1 286 1658 = some (.iadd, ((0, 0), ([], []))) := (kT_286 1658).trans rfl
set_option maxRecDepth 100000 in
theorem r_286_1659 : xT.1 286 1659 = some (.iaload, ((0, 0), ([], []))) := (kT_286 1659).trans rfl
set_option maxRecDepth 100000 in
theorem r_286_1660 : xT.1 286 1660 = some (.invokevirtual 254, ((201, 2), ([], [0]))) := (kT_286 1660).trans rfl
set_option maxRecDepth 100000 in
theorem r_286_1663 : xT.1 286 1663 = some (.istore 7, ((0, 0), ([], []))) := (kT_286 1663).trans rfl
set_option maxRecDepth 100000 in
theorem r_286_1665 : xT.1 286 1665 = some (.aload_n 2, ((0, 0), ([], []))) := (kT_286 1665).trans rfl
set_option maxRecDepth 100000 in
theorem r_286_1666 : xT.1 286 1666 = some (.invokevirtual 170, ((149, 1), ([], [0]))) := (kT_286 1666).trans rfl
set_option maxRecDepth 100000 in
theorem r_286_1669 : xT.1 286 1669 = some (.iload 6, ((0, 0), ([], []))) := (kT_286 1669).trans rfl
set_option maxRecDepth 100000 in
theorem r_286_1671 : xT.1 286 1671 = some (.if_icmp .eq 5, ((1676, 0), ([], []))) := (kT_286 1671).trans rfl
set_option maxRecDepth 100000 in
theorem r_286_1674 : xT.1 286 1674 = some (.iconst 0, ((0, 0), ([.int 0], []))) := (kT_286 1674).trans rfl
set_option maxRecDepth 100000 in
theorem r_286_1675 : xT.1 286 1675 = some (.ireturn, ((0, 0), ([], []))) := (kT_286 1675).trans rfl
set_option maxRecDepth 100000 in
theorem r_286_1676 : xT.1 286 1676 = some (.iload 6, ((0, 0), ([], []))) := (kT_286 1676).trans rfl
set_option maxRecDepth 100000 in
theorem r_286_1678 : xT.1 286 1678 = some (.ifCond .ne 15, ((1693, 0), ([], []))) := (kT_286 1678).trans rfl
set_option maxRecDepth 100000 in
theorem r_286_1681 : xT.1 286 1681 = some (.aload_n 3, ((0, 0), ([], []))) := (kT_286 1681).trans rfl
set_option maxRecDepth 100000 in
theorem r_286_1682 : xT.1 286 1682 = some (.iconst 0, ((0, 0), ([.int 0], []))) := (kT_286 1682).trans rfl
set_option maxRecDepth 100000 in
theorem r_286_1683 : xT.1 286 1683 = some (.laload, ((0, 0), ([], []))) := (kT_286 1683).trans rfl
set_option maxRecDepth 100000 in
theorem r_286_1684 : xT.1 286 1684 = some (.iload 7, ((0, 0), ([], []))) := (kT_286 1684).trans rfl
set_option maxRecDepth 100000 in
theorem r_286_1686 : xT.1 286 1686 = some (.i2l, ((0, 0), ([], []))) := (kT_286 1686).trans rfl
set_option maxRecDepth 100000 in
theorem r_286_1687 : xT.1 286 1687 = some (.lcmp, ((0, 0), ([], []))) := (kT_286 1687).trans rfl
set_option maxRecDepth 100000 in
theorem r_286_1688 : xT.1 286 1688 = some (.ifCond .eq 5, ((1693, 0), ([], []))) := (kT_286 1688).trans rfl
set_option maxRecDepth 100000 in
theorem r_286_1691 : xT.1 286 1691 = some (.iconst 0, ((0, 0), ([.int 0], []))) := (kT_286 1691).trans rfl
set_option maxRecDepth 100000 in
theorem r_286_1692 : xT.1 286 1692 = some (.ireturn, ((0, 0), ([], []))) := (kT_286 1692).trans rfl
set_option maxRecDepth 100000 in
theorem r_286_1693 : xT.1 286 1693 = some (.goto 1204, ((2897, 0), ([], []))) := (kT_286 1693).trans rfl
set_option maxRecDepth 100000 in
theorem r_286_1696 : xT.1 286 1696 = some (.aload_n 1, ((0, 0), ([], []))) := (kT_286 1696).trans rfl
set_option maxRecDepth 100000 in
theorem r_286_1697 : xT.1 286 1697 = some (.aload_n 0, ((0, 0), ([], []))) := (kT_286 1697).trans rfl
set_option maxRecDepth 100000 in
theorem r_286_1698 : xT.1 286 1698 = some (.iload 5, ((0, 0), ([], []))) := (kT_286 1698).trans rfl
set_option maxRecDepth 100000 in
theorem r_286_1700 : xT.1 286 1700 = some (.iconst 1, ((0, 0), ([.int 1], []))) := (kT_286 1700).trans rfl
set_option maxRecDepth 100000 in
theorem r_286_1701 : xT.1 286 1701 = some (.iadd, ((0, 0), ([], []))) := (kT_286 1701).trans rfl
set_option maxRecDepth 100000 in
theorem r_286_1702 : xT.1 286 1702 = some (.iaload, ((0, 0), ([], []))) := (kT_286 1702).trans rfl
set_option maxRecDepth 100000 in
theorem r_286_1703 : xT.1 286 1703 = some (.aload_n 3, ((0, 0), ([], []))) := (kT_286 1703).trans rfl
set_option maxRecDepth 100000 in
theorem r_286_1704 : xT.1 286 1704 = some (.invokestatic 255, ((265, 3), ([], [3]))) := (kT_286 1704).trans rfl
set_option maxRecDepth 100000 in
theorem r_286_1707 : xT.1 286 1707 = some (.istore 6, ((0, 0), ([], []))) := (kT_286 1707).trans rfl
set_option maxRecDepth 100000 in
theorem r_286_1709 : xT.1 286 1709 = some (.aload_n 2, ((0, 0), ([], []))) := (kT_286 1709).trans rfl
set_option maxRecDepth 100000 in
theorem r_286_1710 : xT.1 286 1710 = some (.aload_n 0, ((0, 0), ([], []))) := (kT_286 1710).trans rfl
set_option maxRecDepth 100000 in
theorem r_286_1711 : xT.1 286 1711 = some (.iload 5, ((0, 0), ([], []))) := (kT_286 1711).trans rfl
set_option maxRecDepth 100000 in
theorem r_286_1713 : xT.1 286 1713 = some (.iconst 1, ((0, 0), ([.int 1], []))) := (kT_286 1713).trans rfl
set_option maxRecDepth 100000 in
theorem r_286_1714 : xT.1 286 1714 = some (.iadd, ((0, 0), ([], []))) := (kT_286 1714).trans rfl
set_option maxRecDepth 100000 in
theorem r_286_1715 : xT.1 286 1715 = some (.iaload, ((0, 0), ([], []))) := (kT_286 1715).trans rfl
set_option maxRecDepth 100000 in
theorem r_286_1716 : xT.1 286 1716 = some (.invokevirtual 257, ((202, 2), ([], [0]))) := (kT_286 1716).trans rfl
set_option maxRecDepth 100000 in
theorem r_286_1719 : xT.1 286 1719 = some (.istore 7, ((0, 0), ([], []))) := (kT_286 1719).trans rfl
set_option maxRecDepth 100000 in
theorem r_286_1721 : xT.1 286 1721 = some (.aload_n 2, ((0, 0), ([], []))) := (kT_286 1721).trans rfl
set_option maxRecDepth 100000 in
theorem r_286_1722 : xT.1 286 1722 = some (.invokevirtual 170, ((149, 1), ([], [0]))) := (kT_286 1722).trans rfl
set_option maxRecDepth 100000 in
theorem r_286_1725 : xT.1 286 1725 = some (.iload 6, ((0, 0), ([], []))) := (kT_286 1725).trans rfl
set_option maxRecDepth 100000 in
theorem r_286_1727 : xT.1 286 1727 = some (.if_icmp .eq 5, ((1732, 0), ([], []))) := (kT_286 1727).trans rfl
set_option maxRecDepth 100000 in
theorem r_286_1730 : xT.1 286 1730 = some (.iconst 0, ((0, 0), ([.int 0], []))) := (kT_286 1730).trans rfl
set_option maxRecDepth 100000 in
theorem r_286_1731 : xT.1 286 1731 = some (.ireturn, ((0, 0), ([], []))) := (kT_286 1731).trans rfl
set_option maxRecDepth 100000 in
theorem r_286_1732 : xT.1 286 1732 = some (.iload 6, ((0, 0), ([], []))) := (kT_286 1732).trans rfl
set_option maxRecDepth 100000 in
theorem r_286_1734 : xT.1 286 1734 = some (.ifCond .ne 15, ((1749, 0), ([], []))) := (kT_286 1734).trans rfl
set_option maxRecDepth 100000 in
theorem r_286_1737 : xT.1 286 1737 = some (.aload_n 3, ((0, 0), ([], []))) := (kT_286 1737).trans rfl
set_option maxRecDepth 100000 in
theorem r_286_1738 : xT.1 286 1738 = some (.iconst 0, ((0, 0), ([.int 0], []))) := (kT_286 1738).trans rfl
set_option maxRecDepth 100000 in
theorem r_286_1739 : xT.1 286 1739 = some (.laload, ((0, 0), ([], []))) := (kT_286 1739).trans rfl
set_option maxRecDepth 100000 in
theorem r_286_1740 : xT.1 286 1740 = some (.iload 7, ((0, 0), ([], []))) := (kT_286 1740).trans rfl
set_option maxRecDepth 100000 in
theorem r_286_1742 : xT.1 286 1742 = some (.i2l, ((0, 0), ([], []))) := (kT_286 1742).trans rfl
set_option maxRecDepth 100000 in
theorem r_286_1743 : xT.1 286 1743 = some (.lcmp, ((0, 0), ([], []))) := (kT_286 1743).trans rfl
set_option maxRecDepth 100000 in
theorem r_286_1744 : xT.1 286 1744 = some (.ifCond .eq 5, ((1749, 0), ([], []))) := (kT_286 1744).trans rfl
set_option maxRecDepth 100000 in
theorem r_286_1747 : xT.1 286 1747 = some (.iconst 0, ((0, 0), ([.int 0], []))) := (kT_286 1747).trans rfl
set_option maxRecDepth 100000 in
theorem r_286_1748 : xT.1 286 1748 = some (.ireturn, ((0, 0), ([], []))) := (kT_286 1748).trans rfl
set_option maxRecDepth 100000 in
theorem r_286_1749 : xT.1 286 1749 = some (.goto 1148, ((2897, 0), ([], []))) := (kT_286 1749).trans rfl
set_option maxRecDepth 100000 in
theorem r_286_1752 : xT.1 286 1752 = some (.aload_n 1, ((0, 0), ([], []))) := (kT_286 1752).trans rfl
set_option maxRecDepth 100000 in
theorem r_286_1753 : xT.1 286 1753 = some (.invokevirtual 258, ((111, 1), ([], [0]))) := (kT_286 1753).trans rfl
set_option maxRecDepth 100000 in
theorem r_286_1756 : xT.1 286 1756 = some (.aload_n 2, ((0, 0), ([], []))) := (kT_286 1756).trans rfl
set_option maxRecDepth 100000 in
theorem r_286_1757 : xT.1 286 1757 = some (.invokevirtual 261, ((203, 1), ([], [0]))) := (kT_286 1757).trans rfl
set_option maxRecDepth 100000 in
theorem r_286_1760 : xT.1 286 1760 = some (.if_icmp .eq 1137, ((2897, 0), ([], []))) := (kT_286 1760).trans rfl
set_option maxRecDepth 100000 in
theorem r_286_1763 : xT.1 286 1763 = some (.iconst 0, ((0, 0), ([.int 0], []))) := (kT_286 1763).trans rfl
set_option maxRecDepth 100000 in
theorem r_286_1764 : xT.1 286 1764 = some (.ireturn, ((0, 0), ([], []))) := (kT_286 1764).trans rfl
set_option maxRecDepth 100000 in
theorem r_286_1765 : xT.1 286 1765 = some (.aload_n 1, ((0, 0), ([], []))) := (kT_286 1765).trans rfl
set_option maxRecDepth 100000 in
theorem r_286_1766 : xT.1 286 1766 = some (.aload_n 0, ((0, 0), ([], []))) := (kT_286 1766).trans rfl
set_option maxRecDepth 100000 in
theorem r_286_1767 : xT.1 286 1767 = some (.iload 5, ((0, 0), ([], []))) := (kT_286 1767).trans rfl
set_option maxRecDepth 100000 in
theorem r_286_1769 : xT.1 286 1769 = some (.iconst 1, ((0, 0), ([.int 1], []))) := (kT_286 1769).trans rfl
set_option maxRecDepth 100000 in
theorem r_286_1770 : xT.1 286 1770 = some (.iadd, ((0, 0), ([], []))) := (kT_286 1770).trans rfl
set_option maxRecDepth 100000 in
theorem r_286_1771 : xT.1 286 1771 = some (.iaload, ((0, 0), ([], []))) := (kT_286 1771).trans rfl
set_option maxRecDepth 100000 in
theorem r_286_1772 : xT.1 286 1772 = some (.aload_n 3, ((0, 0), ([], []))) := (kT_286 1772).trans rfl
set_option maxRecDepth 100000 in
theorem r_286_1773 : xT.1 286 1773 = some (.invokestatic 262, ((266, 3), ([], [3]))) := (kT_286 1773).trans rfl
set_option maxRecDepth 100000 in
theorem r_286_1776 : xT.1 286 1776 = some (.istore 6, ((0, 0), ([], []))) := (kT_286 1776).trans rfl
set_option maxRecDepth 100000 in
theorem r_286_1778 : xT.1 286 1778 = some (.aload_n 2, ((0, 0), ([], []))) := (kT_286 1778).trans rfl
set_option maxRecDepth 100000 in
theorem r_286_1779 : xT.1 286 1779 = some (.aload_n 0, ((0, 0), ([], []))) := (kT_286 1779).trans rfl
set_option maxRecDepth 100000 in
theorem r_286_1780 : xT.1 286 1780 = some (.iload 5, ((0, 0), ([], []))) := (kT_286 1780).trans rfl
set_option maxRecDepth 100000 in
theorem r_286_1782 : xT.1 286 1782 = some (.iconst 1, ((0, 0), ([.int 1], []))) := (kT_286 1782).trans rfl
set_option maxRecDepth 100000 in
theorem r_286_1783 : xT.1 286 1783 = some (.iadd, ((0, 0), ([], []))) := (kT_286 1783).trans rfl
set_option maxRecDepth 100000 in
theorem r_286_1784 : xT.1 286 1784 = some (.iaload, ((0, 0), ([], []))) := (kT_286 1784).trans rfl
set_option maxRecDepth 100000 in
theorem r_286_1785 : xT.1 286 1785 = some (.invokevirtual 264, ((204, 2), ([], [0]))) := (kT_286 1785).trans rfl
set_option maxRecDepth 100000 in
theorem r_286_1788 : xT.1 286 1788 = some (.istore 7, ((0, 0), ([], []))) := (kT_286 1788).trans rfl
set_option maxRecDepth 100000 in
theorem r_286_1790 : xT.1 286 1790 = some (.aload_n 2, ((0, 0), ([], []))) := (kT_286 1790).trans rfl
set_option maxRecDepth 100000 in
theorem r_286_1791 : xT.1 286 1791 = some (.invokevirtual 170, ((149, 1), ([], [0]))) := (kT_286 1791).trans rfl
set_option maxRecDepth 100000 in
theorem r_286_1794 : xT.1 286 1794 = some (.iload 6, ((0, 0), ([], []))) := (kT_286 1794).trans rfl
set_option maxRecDepth 100000 in
theorem r_286_1796 : xT.1 286 1796 = some (.if_icmp .eq 5, ((1801, 0), ([], []))) := (kT_286 1796).trans rfl
set_option maxRecDepth 100000 in
theorem r_286_1799 : xT.1 286 1799 = some (.iconst 0, ((0, 0), ([.int 0], []))) := (kT_286 1799).trans rfl
set_option maxRecDepth 100000 in
theorem r_286_1800 : xT.1 286 1800 = some (.ireturn, ((0, 0), ([], []))) := (kT_286 1800).trans rfl
set_option maxRecDepth 100000 in
theorem r_286_1801 : xT.1 286 1801 = some (.iload 6, ((0, 0), ([], []))) := (kT_286 1801).trans rfl
set_option maxRecDepth 100000 in
theorem r_286_1803 : xT.1 286 1803 = some (.ifCond .ne 15, ((1818, 0), ([], []))) := (kT_286 1803).trans rfl
set_option maxRecDepth 100000 in
theorem r_286_1806 : xT.1 286 1806 = some (.aload_n 3, ((0, 0), ([], []))) := (kT_286 1806).trans rfl
set_option maxRecDepth 100000 in
theorem r_286_1807 : xT.1 286 1807 = some (.iconst 0, ((0, 0), ([.int 0], []))) := (kT_286 1807).trans rfl
set_option maxRecDepth 100000 in
theorem r_286_1808 : xT.1 286 1808 = some (.laload, ((0, 0), ([], []))) := (kT_286 1808).trans rfl
set_option maxRecDepth 100000 in
theorem r_286_1809 : xT.1 286 1809 = some (.iload 7, ((0, 0), ([], []))) := (kT_286 1809).trans rfl
set_option maxRecDepth 100000 in
theorem r_286_1811 : xT.1 286 1811 = some (.i2l, ((0, 0), ([], []))) := (kT_286 1811).trans rfl
set_option maxRecDepth 100000 in
theorem r_286_1812 : xT.1 286 1812 = some (.lcmp, ((0, 0), ([], []))) := (kT_286 1812).trans rfl
set_option maxRecDepth 100000 in
theorem r_286_1813 : xT.1 286 1813 = some (.ifCond .eq 5, ((1818, 0), ([], []))) := (kT_286 1813).trans rfl
set_option maxRecDepth 100000 in
theorem r_286_1816 : xT.1 286 1816 = some (.iconst 0, ((0, 0), ([.int 0], []))) := (kT_286 1816).trans rfl
set_option maxRecDepth 100000 in
theorem r_286_1817 : xT.1 286 1817 = some (.ireturn, ((0, 0), ([], []))) := (kT_286 1817).trans rfl
set_option maxRecDepth 100000 in
theorem r_286_1818 : xT.1 286 1818 = some (.goto 1079, ((2897, 0), ([], []))) := (kT_286 1818).trans rfl
set_option maxRecDepth 100000 in
theorem r_286_1821 : xT.1 286 1821 = some (.aload_n 1, ((0, 0), ([], []))) := (kT_286 1821).trans rfl
set_option maxRecDepth 100000 in
theorem r_286_1822 : xT.1 286 1822 = some (.aload_n 0, ((0, 0), ([], []))) := (kT_286 1822).trans rfl
set_option maxRecDepth 100000 in
theorem r_286_1823 : xT.1 286 1823 = some (.iload 5, ((0, 0), ([], []))) := (kT_286 1823).trans rfl
set_option maxRecDepth 100000 in
theorem r_286_1825 : xT.1 286 1825 = some (.iconst 1, ((0, 0), ([.int 1], []))) := (kT_286 1825).trans rfl
set_option maxRecDepth 100000 in
theorem r_286_1826 : xT.1 286 1826 = some (.iadd, ((0, 0), ([], []))) := (kT_286 1826).trans rfl
set_option maxRecDepth 100000 in
theorem r_286_1827 : xT.1 286 1827 = some (.iaload, ((0, 0), ([], []))) := (kT_286 1827).trans rfl
set_option maxRecDepth 100000 in
theorem r_286_1828 : xT.1 286 1828 = some (.aload_n 3, ((0, 0), ([], []))) := (kT_286 1828).trans rfl
set_option maxRecDepth 100000 in
theorem r_286_1829 : xT.1 286 1829 = some (.invokestatic 265, ((267, 3), ([], [3]))) := (kT_286 1829).trans rfl
set_option maxRecDepth 100000 in
theorem r_286_1832 : xT.1 286 1832 = some (.istore 6, ((0, 0), ([], []))) := (kT_286 1832).trans rfl
set_option maxRecDepth 100000 in
theorem r_286_1834 : xT.1 286 1834 = some (.aload_n 2, ((0, 0), ([], []))) := (kT_286 1834).trans rfl
set_option maxRecDepth 100000 in
theorem r_286_1835 : xT.1 286 1835 = some (.aload_n 0, ((0, 0), ([], []))) := (kT_286 1835).trans rfl
set_option maxRecDepth 100000 in
theorem r_286_1836 : xT.1 286 1836 = some (.iload 5, ((0, 0), ([], []))) := (kT_286 1836).trans rfl
set_option maxRecDepth 100000 in
theorem r_286_1838 : xT.1 286 1838 = some (.iconst 1, ((0, 0), ([.int 1], []))) := (kT_286 1838).trans rfl
set_option maxRecDepth 100000 in
theorem r_286_1839 : xT.1 286 1839 = some (.iadd, ((0, 0), ([], []))) := (kT_286 1839).trans rfl
set_option maxRecDepth 100000 in
theorem r_286_1840 : xT.1 286 1840 = some (.iaload, ((0, 0), ([], []))) := (kT_286 1840).trans rfl
set_option maxRecDepth 100000 in
theorem r_286_1841 : xT.1 286 1841 = some (.invokevirtual 267, ((206, 2), ([], [0]))) := (kT_286 1841).trans rfl
set_option maxRecDepth 100000 in
theorem r_286_1844 : xT.1 286 1844 = some (.istore 7, ((0, 0), ([], []))) := (kT_286 1844).trans rfl
set_option maxRecDepth 100000 in
theorem r_286_1846 : xT.1 286 1846 = some (.aload_n 2, ((0, 0), ([], []))) := (kT_286 1846).trans rfl
set_option maxRecDepth 100000 in
theorem r_286_1847 : xT.1 286 1847 = some (.invokevirtual 170, ((149, 1), ([], [0]))) := (kT_286 1847).trans rfl
set_option maxRecDepth 100000 in
theorem r_286_1850 : xT.1 286 1850 = some (.iload 6, ((0, 0), ([], []))) := (kT_286 1850).trans rfl
set_option maxRecDepth 100000 in
theorem r_286_1852 : xT.1 286 1852 = some (.if_icmp .eq 5, ((1857, 0), ([], []))) := (kT_286 1852).trans rfl
set_option maxRecDepth 100000 in
theorem r_286_1855 : xT.1 286 1855 = some (.iconst 0, ((0, 0), ([.int 0], []))) := (kT_286 1855).trans rfl
set_option maxRecDepth 100000 in
theorem r_286_1856 : xT.1 286 1856 = some (.ireturn, ((0, 0), ([], []))) := (kT_286 1856).trans rfl
set_option maxRecDepth 100000 in
theorem r_286_1857 : xT.1 286 1857 = some (.iload 6, ((0, 0), ([], []))) := (kT_286 1857).trans rfl
set_option maxRecDepth 100000 in
theorem r_286_1859 : xT.1 286 1859 = some (.ifCond .ne 15, ((1874, 0), ([], []))) := (kT_286 1859).trans rfl
set_option maxRecDepth 100000 in
theorem r_286_1862 : xT.1 286 1862 = some (.aload_n 3, ((0, 0), ([], []))) := (kT_286 1862).trans rfl
set_option maxRecDepth 100000 in
theorem r_286_1863 : xT.1 286 1863 = some (.iconst 0, ((0, 0), ([.int 0], []))) := (kT_286 1863).trans rfl
set_option maxRecDepth 100000 in
theorem r_286_1864 : xT.1 286 1864 = some (.laload, ((0, 0), ([], []))) := (kT_286 1864).trans rfl
set_option maxRecDepth 100000 in
theorem r_286_1865 : xT.1 286 1865 = some (.iload 7, ((0, 0), ([], []))) := (kT_286 1865).trans rfl
set_option maxRecDepth 100000 in
theorem r_286_1867 : xT.1 286 1867 = some (.i2l, ((0, 0), ([], []))) := (kT_286 1867).trans rfl
set_option maxRecDepth 100000 in
theorem r_286_1868 : xT.1 286 1868 = some (.lcmp, ((0, 0), ([], []))) := (kT_286 1868).trans rfl
set_option maxRecDepth 100000 in
theorem r_286_1869 : xT.1 286 1869 = some (.ifCond .eq 5, ((1874, 0), ([], []))) := (kT_286 1869).trans rfl
set_option maxRecDepth 100000 in
theorem r_286_1872 : xT.1 286 1872 = some (.iconst 0, ((0, 0), ([.int 0], []))) := (kT_286 1872).trans rfl
set_option maxRecDepth 100000 in
theorem r_286_1873 : xT.1 286 1873 = some (.ireturn, ((0, 0), ([], []))) := (kT_286 1873).trans rfl
set_option maxRecDepth 100000 in
theorem r_286_1874 : xT.1 286 1874 = some (.goto 1023, ((2897, 0), ([], []))) := (kT_286 1874).trans rfl
set_option maxRecDepth 100000 in
theorem r_286_1877 : xT.1 286 1877 = some (.aload_n 1, ((0, 0), ([], []))) := (kT_286 1877).trans rfl
set_option maxRecDepth 100000 in
theorem r_286_1878 : xT.1 286 1878 = some (.aload_n 0, ((0, 0), ([], []))) := (kT_286 1878).trans rfl
set_option maxRecDepth 100000 in
theorem r_286_1879 : xT.1 286 1879 = some (.iload 5, ((0, 0), ([], []))) := (kT_286 1879).trans rfl
set_option maxRecDepth 100000 in
theorem r_286_1881 : xT.1 286 1881 = some (.iconst 1, ((0, 0), ([.int 1], []))) := (kT_286 1881).trans rfl
set_option maxRecDepth 100000 in
theorem r_286_1882 : xT.1 286 1882 = some (.iadd, ((0, 0), ([], []))) := (kT_286 1882).trans rfl
set_option maxRecDepth 100000 in
theorem r_286_1883 : xT.1 286 1883 = some (.iaload, ((0, 0), ([], []))) := (kT_286 1883).trans rfl
set_option maxRecDepth 100000 in
theorem r_286_1884 : xT.1 286 1884 = some (.aload_n 3, ((0, 0), ([], []))) := (kT_286 1884).trans rfl
set_option maxRecDepth 100000 in
theorem r_286_1885 : xT.1 286 1885 = some (.invokestatic 268, ((268, 3), ([], [3]))) := (kT_286 1885).trans rfl
set_option maxRecDepth 100000 in
theorem r_286_1888 : xT.1 286 1888 = some (.istore 6, ((0, 0), ([], []))) := (kT_286 1888).trans rfl
set_option maxRecDepth 100000 in
theorem r_286_1890 : xT.1 286 1890 = some (.aload_n 2, ((0, 0), ([], []))) := (kT_286 1890).trans rfl
set_option maxRecDepth 100000 in
theorem r_286_1891 : xT.1 286 1891 = some (.aload_n 0, ((0, 0), ([], []))) := (kT_286 1891).trans rfl
set_option maxRecDepth 100000 in
theorem r_286_1892 : xT.1 286 1892 = some (.iload 5, ((0, 0), ([], []))) := (kT_286 1892).trans rfl
set_option maxRecDepth 100000 in
theorem r_286_1894 : xT.1 286 1894 = some (.iconst 1, ((0, 0), ([.int 1], []))) := (kT_286 1894).trans rfl
set_option maxRecDepth 100000 in
theorem r_286_1895 : xT.1 286 1895 = some (.iadd, ((0, 0), ([], []))) := (kT_286 1895).trans rfl
set_option maxRecDepth 100000 in
theorem r_286_1896 : xT.1 286 1896 = some (.iaload, ((0, 0), ([], []))) := (kT_286 1896).trans rfl
set_option maxRecDepth 100000 in
theorem r_286_1897 : xT.1 286 1897 = some (.invokevirtual 270, ((207, 2), ([], [0]))) := (kT_286 1897).trans rfl
set_option maxRecDepth 100000 in
theorem r_286_1900 : xT.1 286 1900 = some (.istore 7, ((0, 0), ([], []))) := (kT_286 1900).trans rfl
set_option maxRecDepth 100000 in
theorem r_286_1902 : xT.1 286 1902 = some (.aload_n 2, ((0, 0), ([], []))) := (kT_286 1902).trans rfl
set_option maxRecDepth 100000 in
theorem r_286_1903 : xT.1 286 1903 = some (.invokevirtual 170, ((149, 1), ([], [0]))) := (kT_286 1903).trans rfl
set_option maxRecDepth 100000 in
theorem r_286_1906 : xT.1 286 1906 = some (.iload 6, ((0, 0), ([], []))) := (kT_286 1906).trans rfl
set_option maxRecDepth 100000 in
theorem r_286_1908 : xT.1 286 1908 = some (.if_icmp .eq 5, ((1913, 0), ([], []))) := (kT_286 1908).trans rfl
set_option maxRecDepth 100000 in
theorem r_286_1911 : xT.1 286 1911 = some (.iconst 0, ((0, 0), ([.int 0], []))) := (kT_286 1911).trans rfl
set_option maxRecDepth 100000 in
theorem r_286_1912 : xT.1 286 1912 = some (.ireturn, ((0, 0), ([], []))) := (kT_286 1912).trans rfl
set_option maxRecDepth 100000 in
theorem r_286_1913 : xT.1 286 1913 = some (.iload 6, ((0, 0), ([], []))) := (kT_286 1913).trans rfl
set_option maxRecDepth 100000 in
theorem r_286_1915 : xT.1 286 1915 = some (.ifCond .ne 15, ((1930, 0), ([], []))) := (kT_286 1915).trans rfl
set_option maxRecDepth 100000 in
theorem r_286_1918 : xT.1 286 1918 = some (.aload_n 3, ((0, 0), ([], []))) := (kT_286 1918).trans rfl
set_option maxRecDepth 100000 in
theorem r_286_1919 : xT.1 286 1919 = some (.iconst 0, ((0, 0), ([.int 0], []))) := (kT_286 1919).trans rfl
set_option maxRecDepth 100000 in
theorem r_286_1920 : xT.1 286 1920 = some (.laload, ((0, 0), ([], []))) := (kT_286 1920).trans rfl
set_option maxRecDepth 100000 in
theorem r_286_1921 : xT.1 286 1921 = some (.iload 7, ((0, 0), ([], []))) := (kT_286 1921).trans rfl
set_option maxRecDepth 100000 in
theorem r_286_1923 : xT.1 286 1923 = some (.i2l, ((0, 0), ([], []))) := (kT_286 1923).trans rfl
set_option maxRecDepth 100000 in
theorem r_286_1924 : xT.1 286 1924 = some (.lcmp, ((0, 0), ([], []))) := (kT_286 1924).trans rfl
set_option maxRecDepth 100000 in
theorem r_286_1925 : xT.1 286 1925 = some (.ifCond .eq 5, ((1930, 0), ([], []))) := (kT_286 1925).trans rfl
set_option maxRecDepth 100000 in
theorem r_286_1928 : xT.1 286 1928 = some (.iconst 0, ((0, 0), ([.int 0], []))) := (kT_286 1928).trans rfl
set_option maxRecDepth 100000 in
theorem r_286_1929 : xT.1 286 1929 = some (.ireturn, ((0, 0), ([], []))) := (kT_286 1929).trans rfl
set_option maxRecDepth 100000 in
theorem r_286_1930 : xT.1 286 1930 = some (.goto 967, ((2897, 0), ([], []))) := (kT_286 1930).trans rfl
set_option maxRecDepth 100000 in
theorem r_286_1933 : xT.1 286 1933 = some (.aload_n 1, ((0, 0), ([], []))) := (kT_286 1933).trans rfl
set_option maxRecDepth 100000 in
theorem r_286_1934 : xT.1 286 1934 = some (.aload_n 0, ((0, 0), ([], []))) := (kT_286 1934).trans rfl
set_option maxRecDepth 100000 in
theorem r_286_1935 : xT.1 286 1935 = some (.iload 5, ((0, 0), ([], []))) := (kT_286 1935).trans rfl
set_option maxRecDepth 100000 in
theorem r_286_1937 : xT.1 286 1937 = some (.iconst 1, ((0, 0), ([.int 1], []))) := (kT_286 1937).trans rfl
set_option maxRecDepth 100000 in
theorem r_286_1938 : xT.1 286 1938 = some (.iadd, ((0, 0), ([], []))) := (kT_286 1938).trans rfl
set_option maxRecDepth 100000 in
theorem r_286_1939 : xT.1 286 1939 = some (.iaload, ((0, 0), ([], []))) := (kT_286 1939).trans rfl
set_option maxRecDepth 100000 in
theorem r_286_1940 : xT.1 286 1940 = some (.aload_n 3, ((0, 0), ([], []))) := (kT_286 1940).trans rfl
set_option maxRecDepth 100000 in
theorem r_286_1941 : xT.1 286 1941 = some (.invokestatic 271, ((269, 3), ([], [3]))) := (kT_286 1941).trans rfl
set_option maxRecDepth 100000 in
theorem r_286_1944 : xT.1 286 1944 = some (.istore 6, ((0, 0), ([], []))) := (kT_286 1944).trans rfl
set_option maxRecDepth 100000 in
theorem r_286_1946 : xT.1 286 1946 = some (.aload_n 2, ((0, 0), ([], []))) := (kT_286 1946).trans rfl
set_option maxRecDepth 100000 in
theorem r_286_1947 : xT.1 286 1947 = some (.aload_n 0, ((0, 0), ([], []))) := (kT_286 1947).trans rfl
set_option maxRecDepth 100000 in
theorem r_286_1948 : xT.1 286 1948 = some (.iload 5, ((0, 0), ([], []))) := (kT_286 1948).trans rfl
set_option maxRecDepth 100000 in
theorem r_286_1950 : xT.1 286 1950 = some (.iconst 1, ((0, 0), ([.int 1], []))) := (kT_286 1950).trans rfl
set_option maxRecDepth 100000 in
theorem r_286_1951 : xT.1 286 1951 = some (.iadd, ((0, 0), ([], []))) := (kT_286 1951).trans rfl
set_option maxRecDepth 100000 in
theorem r_286_1952 : xT.1 286 1952 = some (.iaload, ((0, 0), ([], []))) := (kT_286 1952).trans rfl
set_option maxRecDepth 100000 in
theorem r_286_1953 : xT.1 286 1953 = some (.invokevirtual 273, ((208, 2), ([], [0]))) := (kT_286 1953).trans rfl
set_option maxRecDepth 100000 in
theorem r_286_1956 : xT.1 286 1956 = some (.istore 7, ((0, 0), ([], []))) := (kT_286 1956).trans rfl
set_option maxRecDepth 100000 in
theorem r_286_1958 : xT.1 286 1958 = some (.aload_n 2, ((0, 0), ([], []))) := (kT_286 1958).trans rfl
set_option maxRecDepth 100000 in
theorem r_286_1959 : xT.1 286 1959 = some (.invokevirtual 170, ((149, 1), ([], [0]))) := (kT_286 1959).trans rfl
set_option maxRecDepth 100000 in
theorem r_286_1962 : xT.1 286 1962 = some (.iload 6, ((0, 0), ([], []))) := (kT_286 1962).trans rfl
set_option maxRecDepth 100000 in
theorem r_286_1964 : xT.1 286 1964 = some (.if_icmp .eq 5, ((1969, 0), ([], []))) := (kT_286 1964).trans rfl
set_option maxRecDepth 100000 in
theorem r_286_1967 : xT.1 286 1967 = some (.iconst 0, ((0, 0), ([.int 0], []))) := (kT_286 1967).trans rfl
set_option maxRecDepth 100000 in
theorem r_286_1968 : xT.1 286 1968 = some (.ireturn, ((0, 0), ([], []))) := (kT_286 1968).trans rfl
set_option maxRecDepth 100000 in
theorem r_286_1969 : xT.1 286 1969 = some (.iload 6, ((0, 0), ([], []))) := (kT_286 1969).trans rfl
set_option maxRecDepth 100000 in
theorem r_286_1971 : xT.1 286 1971 = some (.ifCond .ne 15, ((1986, 0), ([], []))) := (kT_286 1971).trans rfl
set_option maxRecDepth 100000 in
theorem r_286_1974 : xT.1 286 1974 = some (.aload_n 3, ((0, 0), ([], []))) := (kT_286 1974).trans rfl
set_option maxRecDepth 100000 in
theorem r_286_1975 : xT.1 286 1975 = some (.iconst 0, ((0, 0), ([.int 0], []))) := (kT_286 1975).trans rfl
set_option maxRecDepth 100000 in
theorem r_286_1976 : xT.1 286 1976 = some (.laload, ((0, 0), ([], []))) := (kT_286 1976).trans rfl
set_option maxRecDepth 100000 in
theorem r_286_1977 : xT.1 286 1977 = some (.iload 7, ((0, 0), ([], []))) := (kT_286 1977).trans rfl
set_option maxRecDepth 100000 in
theorem r_286_1979 : xT.1 286 1979 = some (.i2l, ((0, 0), ([], []))) := (kT_286 1979).trans rfl
set_option maxRecDepth 100000 in
theorem r_286_1980 : xT.1 286 1980 = some (.lcmp, ((0, 0), ([], []))) := (kT_286 1980).trans rfl
set_option maxRecDepth 100000 in
theorem r_286_1981 : xT.1 286 1981 = some (.ifCond .eq 5, ((1986, 0), ([], []))) := (kT_286 1981).trans rfl
set_option maxRecDepth 100000 in
theorem r_286_1984 : xT.1 286 1984 = some (.iconst 0, ((0, 0), ([.int 0], []))) := (kT_286 1984).trans rfl
set_option maxRecDepth 100000 in
theorem r_286_1985 : xT.1 286 1985 = some (.ireturn, ((0, 0), ([], []))) := (kT_286 1985).trans rfl
set_option maxRecDepth 100000 in
theorem r_286_1986 : xT.1 286 1986 = some (.goto 911, ((2897, 0), ([], []))) := (kT_286 1986).trans rfl
set_option maxRecDepth 100000 in
theorem r_286_1989 : xT.1 286 1989 = some (.aload_n 1, ((0, 0), ([], []))) := (kT_286 1989).trans rfl
set_option maxRecDepth 100000 in
theorem r_286_1990 : xT.1 286 1990 = some (.aload_n 0, ((0, 0), ([], []))) := (kT_286 1990).trans rfl
set_option maxRecDepth 100000 in
theorem r_286_1991 : xT.1 286 1991 = some (.iload 5, ((0, 0), ([], []))) := (kT_286 1991).trans rfl
set_option maxRecDepth 100000 in
theorem r_286_1993 : xT.1 286 1993 = some (.iconst 1, ((0, 0), ([.int 1], []))) := (kT_286 1993).trans rfl
set_option maxRecDepth 100000 in
theorem r_286_1994 : xT.1 286 1994 = some (.iadd, ((0, 0), ([], []))) := (kT_286 1994).trans rfl
set_option maxRecDepth 100000 in
theorem r_286_1995 : xT.1 286 1995 = some (.iaload, ((0, 0), ([], []))) := (kT_286 1995).trans rfl
set_option maxRecDepth 100000 in
theorem r_286_1996 : xT.1 286 1996 = some (.aload 4, ((0, 0), ([], []))) := (kT_286 1996).trans rfl
set_option maxRecDepth 100000 in
theorem r_286_1998 : xT.1 286 1998 = some (.invokestatic 274, ((270, 3), ([], [3]))) := (kT_286 1998).trans rfl
set_option maxRecDepth 100000 in
theorem r_286_2001 : xT.1 286 2001 = some (.istore 6, ((0, 0), ([], []))) := (kT_286 2001).trans rfl
set_option maxRecDepth 100000 in
theorem r_286_2003 : xT.1 286 2003 = some (.aload_n 2, ((0, 0), ([], []))) := (kT_286 2003).trans rfl
set_option maxRecDepth 100000 in
theorem r_286_2004 : xT.1 286 2004 = some (.aload_n 0, ((0, 0), ([], []))) := (kT_286 2004).trans rfl
set_option maxRecDepth 100000 in
theorem r_286_2005 : xT.1 286 2005 = some (.iload 5, ((0, 0), ([], []))) := (kT_286 2005).trans rfl
set_option maxRecDepth 100000 in
theorem r_286_2007 : xT.1 286 2007 = some (.iconst 1, ((0, 0), ([.int 1], []))) := (kT_286 2007).trans rfl
set_option maxRecDepth 100000 in
theorem r_286_2008 : xT.1 286 2008 = some (.iadd, ((0, 0), ([], []))) := (kT_286 2008).trans rfl
set_option maxRecDepth 100000 in
theorem r_286_2009 : xT.1 286 2009 = some (.iaload, ((0, 0), ([], []))) := (kT_286 2009).trans rfl
set_option maxRecDepth 100000 in
theorem r_286_2010 : xT.1 286 2010 = some (.invokevirtual 277, ((209, 2), ([], [0]))) := (kT_286 2010).trans rfl
set_option maxRecDepth 100000 in
theorem r_286_2013 : xT.1 286 2013 = some (.dstore 7, ((0, 0), ([], []))) := (kT_286 2013).trans rfl
set_option maxRecDepth 100000 in
theorem r_286_2015 : xT.1 286 2015 = some (.aload_n 2, ((0, 0), ([], []))) := (kT_286 2015).trans rfl
set_option maxRecDepth 100000 in
theorem r_286_2016 : xT.1 286 2016 = some (.invokevirtual 170, ((149, 1), ([], [0]))) := (kT_286 2016).trans rfl
set_option maxRecDepth 100000 in
theorem r_286_2019 : xT.1 286 2019 = some (.iload 6, ((0, 0), ([], []))) := (kT_286 2019).trans rfl
set_option maxRecDepth 100000 in
theorem r_286_2021 : xT.1 286 2021 = some (.if_icmp .eq 5, ((2026, 0), ([], []))) := (kT_286 2021).trans rfl
set_option maxRecDepth 100000 in
theorem r_286_2024 : xT.1 286 2024 = some (.iconst 0, ((0, 0), ([.int 0], []))) := (kT_286 2024).trans rfl
set_option maxRecDepth 100000 in
theorem r_286_2025 : xT.1 286 2025 = some (.ireturn, ((0, 0), ([], []))) := (kT_286 2025).trans rfl
set_option maxRecDepth 100000 in
theorem r_286_2026 : xT.1 286 2026 = some (.iload 6, ((0, 0), ([], []))) := (kT_286 2026).trans rfl
set_option maxRecDepth 100000 in
theorem r_286_2028 : xT.1 286 2028 = some (.ifCond .ne 35, ((2063, 0), ([], []))) := (kT_286 2028).trans rfl
set_option maxRecDepth 100000 in
theorem r_286_2031 : xT.1 286 2031 = some (.aload 4, ((0, 0), ([], []))) := (kT_286 2031).trans rfl
set_option maxRecDepth 100000 in
theorem r_286_2033 : xT.1 286 2033 = some (.iconst 0, ((0, 0), ([.int 0], []))) := (kT_286 2033).trans rfl
set_option maxRecDepth 100000 in
theorem r_286_2034 : xT.1 286 2034 = some (.daload, ((0, 0), ([], []))) := (kT_286 2034).trans rfl
set_option maxRecDepth 100000 in
theorem r_286_2035 : xT.1 286 2035 = some (.dload 7, ((0, 0), ([], []))) := (kT_286 2035).trans rfl
set_option maxRecDepth 100000 in
theorem r_286_2037 : xT.1 286 2037 = some (.dcmp .l, ((0, 0), ([], []))) := (kT_286 2037).trans rfl
set_option maxRecDepth 100000 in
theorem r_286_2038 : xT.1 286 2038 = some (.ifCond .eq 25, ((2063, 0), ([], []))) := (kT_286 2038).trans rfl
set_option maxRecDepth 100000 in
theorem r_286_2041 : xT.1 286 2041 = some (.aload 4, ((0, 0), ([], []))) := (kT_286 2041).trans rfl
set_option maxRecDepth 100000 in
theorem r_286_2043 : xT.1 286 2043 = some (.iconst 0, ((0, 0), ([.int 0], []))) := (kT_286 2043).trans rfl
set_option maxRecDepth 100000 in
theorem r_286_2044 : xT.1 286 2044 = some (.daload, ((0, 0), ([], []))) := (kT_286 2044).trans rfl
set_option maxRecDepth 100000 in
theorem r_286_2045 : xT.1 286 2045 = some (.aload 4, ((0, 0), ([], []))) := (kT_286 2045).trans rfl
set_option maxRecDepth 100000 in
theorem r_286_2047 : xT.1 286 2047 = some (.iconst 0, ((0, 0), ([.int 0], []))) := (kT_286 2047).trans rfl
set_option maxRecDepth 100000 in
theorem r_286_2048 : xT.1 286 2048 = some (.daload, ((0, 0), ([], []))) := (kT_286 2048).trans rfl
set_option maxRecDepth 100000 in
theorem r_286_2049 : xT.1 286 2049 = some (.dcmp .l, ((0, 0), ([], []))) := (kT_286 2049).trans rfl
set_option maxRecDepth 100000 in
theorem r_286_2050 : xT.1 286 2050 = some (.ifCond .eq 11, ((2061, 0), ([], []))) := (kT_286 2050).trans rfl
set_option maxRecDepth 100000 in
theorem r_286_2053 : xT.1 286 2053 = some (.dload 7, ((0, 0), ([], []))) := (kT_286 2053).trans rfl
set_option maxRecDepth 100000 in
theorem r_286_2055 : xT.1 286 2055 = some (.dload 7, ((0, 0), ([], []))) := (kT_286 2055).trans rfl
set_option maxRecDepth 100000 in
theorem r_286_2057 : xT.1 286 2057 = some (.dcmp .l, ((0, 0), ([], []))) := (kT_286 2057).trans rfl
set_option maxRecDepth 100000 in
theorem r_286_2058 : xT.1 286 2058 = some (.ifCond .ne 5, ((2063, 0), ([], []))) := (kT_286 2058).trans rfl
set_option maxRecDepth 100000 in
theorem r_286_2061 : xT.1 286 2061 = some (.iconst 0, ((0, 0), ([.int 0], []))) := (kT_286 2061).trans rfl
set_option maxRecDepth 100000 in
theorem r_286_2062 : xT.1 286 2062 = some (.ireturn, ((0, 0), ([], []))) := (kT_286 2062).trans rfl
set_option maxRecDepth 100000 in
theorem r_286_2063 : xT.1 286 2063 = some (.goto 834, ((2897, 0), ([], []))) := (kT_286 2063).trans rfl
set_option maxRecDepth 100000 in
theorem r_286_2066 : xT.1 286 2066 = some (.aload_n 1, ((0, 0), ([], []))) := (kT_286 2066).trans rfl
set_option maxRecDepth 100000 in
theorem r_286_2067 : xT.1 286 2067 = some (.aload_n 0, ((0, 0), ([], []))) := (kT_286 2067).trans rfl
set_option maxRecDepth 100000 in
theorem r_286_2068 : xT.1 286 2068 = some (.iload 5, ((0, 0), ([], []))) := (kT_286 2068).trans rfl
set_option maxRecDepth 100000 in
theorem r_286_2070 : xT.1 286 2070 = some (.iconst 1, ((0, 0), ([.int 1], []))) := (kT_286 2070).trans rfl
set_option maxRecDepth 100000 in
theorem r_286_2071 : xT.1 286 2071 = some (.iadd, ((0, 0), ([], []))) := (kT_286 2071).trans rfl
set_option maxRecDepth 100000 in
theorem r_286_2072 : xT.1 286 2072 = some (.iaload, ((0, 0), ([], []))) := (kT_286 2072).trans rfl
set_option maxRecDepth 100000 in
theorem r_286_2073 : xT.1 286 2073 = some (.aload_n 3, ((0, 0), ([], []))) := (kT_286 2073).trans rfl
set_option maxRecDepth 100000 in
theorem r_286_2074 : xT.1 286 2074 = some (.invokestatic 278, ((271, 3), ([], [3]))) := (kT_286 2074).trans rfl
set_option maxRecDepth 100000 in
theorem r_286_2077 : xT.1 286 2077 = some (.istore 6, ((0, 0), ([], []))) := (kT_286 2077).trans rfl
set_option maxRecDepth 100000 in
theorem r_286_2079 : xT.1 286 2079 = some (.aload_n 2, ((0, 0), ([], []))) := (kT_286 2079).trans rfl
set_option maxRecDepth 100000 in
theorem r_286_2080 : xT.1 286 2080 = some (.aload_n 0, ((0, 0), ([], []))) := (kT_286 2080).trans rfl
set_option maxRecDepth 100000 in
theorem r_286_2081 : xT.1 286 2081 = some (.iload 5, ((0, 0), ([], []))) := (kT_286 2081).trans rfl
set_option maxRecDepth 100000 in
theorem r_286_2083 : xT.1 286 2083 = some (.iconst 1, ((0, 0), ([.int 1], []))) := (kT_286 2083).trans rfl
set_option maxRecDepth 100000 in
theorem r_286_2084 : xT.1 286 2084 = some (.iadd, ((0, 0), ([], []))) := (kT_286 2084).trans rfl
set_option maxRecDepth 100000 in
theorem r_286_2085 : xT.1 286 2085 = some (.iaload, ((0, 0), ([], []))) := (kT_286 2085).trans rfl
set_option maxRecDepth 100000 in
theorem r_286_2086 : xT.1 286 2086 = some (.invokevirtual 280, ((211, 2), ([], [0]))) := (kT_286 2086).trans rfl
set_option maxRecDepth 100000 in
theorem r_286_2089 : xT.1 286 2089 = some (.istore 7, ((0, 0), ([], []))) := (kT_286 2089).trans rfl
set_option maxRecDepth 100000 in
theorem r_286_2091 : xT.1 286 2091 = some (.aload_n 2, ((0, 0), ([], []))) := (kT_286 2091).trans rfl
set_option maxRecDepth 100000 in
theorem r_286_2092 : xT.1 286 2092 = some (.invokevirtual 170, ((149, 1), ([], [0]))) := (kT_286 2092).trans rfl
set_option maxRecDepth 100000 in
theorem r_286_2095 : xT.1 286 2095 = some (.iload 6, ((0, 0), ([], []))) := (kT_286 2095).trans rfl
set_option maxRecDepth 100000 in
theorem r_286_2097 : xT.1 286 2097 = some (.if_icmp .eq 5, ((2102, 0), ([], []))) := (kT_286 2097).trans rfl
set_option maxRecDepth 100000 in
theorem r_286_2100 : xT.1 286 2100 = some (.iconst 0, ((0, 0), ([.int 0], []))) := (kT_286 2100).trans rfl
set_option maxRecDepth 100000 in
theorem r_286_2101 : xT.1 286 2101 = some (.ireturn, ((0, 0), ([], []))) := (kT_286 2101).trans rfl
set_option maxRecDepth 100000 in
theorem r_286_2102 : xT.1 286 2102 = some (.iload 6, ((0, 0), ([], []))) := (kT_286 2102).trans rfl
set_option maxRecDepth 100000 in
theorem r_286_2104 : xT.1 286 2104 = some (.ifCond .ne 15, ((2119, 0), ([], []))) := (kT_286 2104).trans rfl
set_option maxRecDepth 100000 in
theorem r_286_2107 : xT.1 286 2107 = some (.aload_n 3, ((0, 0), ([], []))) := (kT_286 2107).trans rfl
set_option maxRecDepth 100000 in
theorem r_286_2108 : xT.1 286 2108 = some (.iconst 0, ((0, 0), ([.int 0], []))) := (kT_286 2108).trans rfl
set_option maxRecDepth 100000 in
theorem r_286_2109 : xT.1 286 2109 = some (.laload, ((0, 0), ([], []))) := (kT_286 2109).trans rfl
set_option maxRecDepth 100000 in
theorem r_286_2110 : xT.1 286 2110 = some (.iload 7, ((0, 0), ([], []))) := (kT_286 2110).trans rfl
set_option maxRecDepth 100000 in
theorem r_286_2112 : xT.1 286 2112 = some (.i2l, ((0, 0), ([], []))) := (kT_286 2112).trans rfl
set_option maxRecDepth 100000 in
theorem r_286_2113 : xT.1 286 2113 = some (.lcmp, ((0, 0), ([], []))) := (kT_286 2113).trans rfl
set_option maxRecDepth 100000 in
theorem r_286_2114 : xT.1 286 2114 = some (.ifCond .eq 5, ((2119, 0), ([], []))) := (kT_286 2114).trans rfl
set_option maxRecDepth 100000 in
theorem r_286_2117 : xT.1 286 2117 = some (.iconst 0, ((0, 0), ([.int 0], []))) := (kT_286 2117).trans rfl
set_option maxRecDepth 100000 in
theorem r_286_2118 : xT.1 286 2118 = some (.ireturn, ((0, 0), ([], []))) := (kT_286 2118).trans rfl
set_option maxRecDepth 100000 in
theorem r_286_2119 : xT.1 286 2119 = some (.goto 778, ((2897, 0), ([], []))) := (kT_286 2119).trans rfl
set_option maxRecDepth 100000 in
theorem r_286_2122 : xT.1 286 2122 = some (.aload_n 1, ((0, 0), ([], []))) := (kT_286 2122).trans rfl
set_option maxRecDepth 100000 in
theorem r_286_2123 : xT.1 286 2123 = some (.aload_n 3, ((0, 0), ([], []))) := (kT_286 2123).trans rfl
set_option maxRecDepth 100000 in
theorem r_286_2124 : xT.1 286 2124 = some (.invokestatic 281, ((272, 2), ([], [3]))) := (kT_286 2124).trans rfl
set_option maxRecDepth 100000 in
theorem r_286_2127 : xT.1 286 2127 = some (.istore 6, ((0, 0), ([], []))) := (kT_286 2127).trans rfl
set_option maxRecDepth 100000 in
theorem r_286_2129 : xT.1 286 2129 = some (.aload_n 2, ((0, 0), ([], []))) := (kT_286 2129).trans rfl
set_option maxRecDepth 100000 in
theorem r_286_2130 : xT.1 286 2130 = some (.invokevirtual 283, ((212, 1), ([], [0]))) := (kT_286 2130).trans rfl
set_option maxRecDepth 100000 in
theorem r_286_2133 : xT.1 286 2133 = some (.istore 7, ((0, 0), ([], []))) := (kT_286 2133).trans rfl
set_option maxRecDepth 100000 in
theorem r_286_2135 : xT.1 286 2135 = some (.aload_n 2, ((0, 0), ([], []))) := (kT_286 2135).trans rfl
set_option maxRecDepth 100000 in
theorem r_286_2136 : xT.1 286 2136 = some (.invokevirtual 170, ((149, 1), ([], [0]))) := (kT_286 2136).trans rfl
set_option maxRecDepth 100000 in
theorem r_286_2139 : xT.1 286 2139 = some (.iload 6, ((0, 0), ([], []))) := (kT_286 2139).trans rfl
set_option maxRecDepth 100000 in
theorem r_286_2141 : xT.1 286 2141 = some (.if_icmp .eq 5, ((2146, 0), ([], []))) := (kT_286 2141).trans rfl
set_option maxRecDepth 100000 in
theorem r_286_2144 : xT.1 286 2144 = some (.iconst 0, ((0, 0), ([.int 0], []))) := (kT_286 2144).trans rfl
set_option maxRecDepth 100000 in
theorem r_286_2145 : xT.1 286 2145 = some (.ireturn, ((0, 0), ([], []))) := (kT_286 2145).trans rfl
set_option maxRecDepth 100000 in
theorem r_286_2146 : xT.1 286 2146 = some (.iload 6, ((0, 0), ([], []))) := (kT_286 2146).trans rfl
set_option maxRecDepth 100000 in
theorem r_286_2148 : xT.1 286 2148 = some (.ifCond .ne 15, ((2163, 0), ([], []))) := (kT_286 2148).trans rfl
set_option maxRecDepth 100000 in
theorem r_286_2151 : xT.1 286 2151 = some (.aload_n 3, ((0, 0), ([], []))) := (kT_286 2151).trans rfl
set_option maxRecDepth 100000 in
theorem r_286_2152 : xT.1 286 2152 = some (.iconst 0, ((0, 0), ([.int 0], []))) := (kT_286 2152).trans rfl
set_option maxRecDepth 100000 in
theorem r_286_2153 : xT.1 286 2153 = some (.laload, ((0, 0), ([], []))) := (kT_286 2153).trans rfl
set_option maxRecDepth 100000 in
theorem r_286_2154 : xT.1 286 2154 = some (.iload 7, ((0, 0), ([], []))) := (kT_286 2154).trans rfl
set_option maxRecDepth 100000 in
theorem r_286_2156 : xT.1 286 2156 = some (.i2l, ((0, 0), ([], []))) := (kT_286 2156).trans rfl
set_option maxRecDepth 100000 in
theorem r_286_2157 : xT.1 286 2157 = some (.lcmp, ((0, 0), ([], []))) := (kT_286 2157).trans rfl
set_option maxRecDepth 100000 in
theorem r_286_2158 : xT.1 286 2158 = some (.ifCond .eq 5, ((2163, 0), ([], []))) := (kT_286 2158).trans rfl
set_option maxRecDepth 100000 in
theorem r_286_2161 : xT.1 286 2161 = some (.iconst 0, ((0, 0), ([.int 0], []))) := (kT_286 2161).trans rfl
set_option maxRecDepth 100000 in
theorem r_286_2162 : xT.1 286 2162 = some (.ireturn, ((0, 0), ([], []))) := (kT_286 2162).trans rfl
set_option maxRecDepth 100000 in
theorem r_286_2163 : xT.1 286 2163 = some (.goto 734, ((2897, 0), ([], []))) := (kT_286 2163).trans rfl
set_option maxRecDepth 100000 in
theorem r_286_2166 : xT.1 286 2166 = some (.aload_n 1, ((0, 0), ([], []))) := (kT_286 2166).trans rfl
set_option maxRecDepth 100000 in
theorem r_286_2167 : xT.1 286 2167 = some (.aload_n 0, ((0, 0), ([], []))) := (kT_286 2167).trans rfl
set_option maxRecDepth 100000 in
theorem r_286_2168 : xT.1 286 2168 = some (.iload 5, ((0, 0), ([], []))) := (kT_286 2168).trans rfl
set_option maxRecDepth 100000 in
theorem r_286_2170 : xT.1 286 2170 = some (.iconst 1, ((0, 0), ([.int 1], []))) := (kT_286 2170).trans rfl
set_option maxRecDepth 100000 in
theorem r_286_2171 : xT.1 286 2171 = some (.iadd, ((0, 0), ([], []))) := (kT_286 2171).trans rfl
set_option maxRecDepth 100000 in
theorem r_286_2172 : xT.1 286 2172 = some (.iaload, ((0, 0), ([], []))) := (kT_286 2172).trans rfl
set_option maxRecDepth 100000 in
theorem r_286_2173 : xT.1 286 2173 = some (.aload_n 3, ((0, 0), ([], []))) := (kT_286 2173).trans rfl
set_option maxRecDepth 100000 in
theorem r_286_2174 : xT.1 286 2174 = some (.invokestatic 284, ((273, 3), ([], [3]))) := (kT_286 2174).trans rfl
set_option maxRecDepth 100000 in
theorem r_286_2177 : xT.1 286 2177 = some (.istore 6, ((0, 0), ([], []))) := (kT_286 2177).trans rfl
set_option maxRecDepth 100000 in
theorem r_286_2179 : xT.1 286 2179 = some (.aload_n 2, ((0, 0), ([], []))) := (kT_286 2179).trans rfl
set_option maxRecDepth 100000 in
theorem r_286_2180 : xT.1 286 2180 = some (.aload_n 0, ((0, 0), ([], []))) := (kT_286 2180).trans rfl
set_option maxRecDepth 100000 in
theorem r_286_2181 : xT.1 286 2181 = some (.iload 5, ((0, 0), ([], []))) := (kT_286 2181).trans rfl
set_option maxRecDepth 100000 in
theorem r_286_2183 : xT.1 286 2183 = some (.iconst 1, ((0, 0), ([.int 1], []))) := (kT_286 2183).trans rfl
set_option maxRecDepth 100000 in
theorem r_286_2184 : xT.1 286 2184 = some (.iadd, ((0, 0), ([], []))) := (kT_286 2184).trans rfl
set_option maxRecDepth 100000 in
theorem r_286_2185 : xT.1 286 2185 = some (.iaload, ((0, 0), ([], []))) := (kT_286 2185).trans rfl
set_option maxRecDepth 100000 in
theorem r_286_2186 : xT.1 286 2186 = some (.invokevirtual 286, ((214, 2), ([], [0]))) := (kT_286 2186).trans rfl
set_option maxRecDepth 100000 in
theorem r_286_2189 : xT.1 286 2189 = some (.istore 7, ((0, 0), ([], []))) := (kT_286 2189).trans rfl
set_option maxRecDepth 100000 in
theorem r_286_2191 : xT.1 286 2191 = some (.aload_n 2, ((0, 0), ([], []))) := (kT_286 2191).trans rfl
set_option maxRecDepth 100000 in
theorem r_286_2192 : xT.1 286 2192 = some (.invokevirtual 170, ((149, 1), ([], [0]))) := (kT_286 2192).trans rfl
set_option maxRecDepth 100000 in
theorem r_286_2195 : xT.1 286 2195 = some (.iload 6, ((0, 0), ([], []))) := (kT_286 2195).trans rfl
set_option maxRecDepth 100000 in
theorem r_286_2197 : xT.1 286 2197 = some (.if_icmp .eq 5, ((2202, 0), ([], []))) := (kT_286 2197).trans rfl
set_option maxRecDepth 100000 in
theorem r_286_2200 : xT.1 286 2200 = some (.iconst 0, ((0, 0), ([.int 0], []))) := (kT_286 2200).trans rfl
set_option maxRecDepth 100000 in
theorem r_286_2201 : xT.1 286 2201 = some (.ireturn, ((0, 0), ([], []))) := (kT_286 2201).trans rfl
set_option maxRecDepth 100000 in
theorem r_286_2202 : xT.1 286 2202 = some (.iload 6, ((0, 0), ([], []))) := (kT_286 2202).trans rfl
set_option maxRecDepth 100000 in
theorem r_286_2204 : xT.1 286 2204 = some (.ifCond .ne 15, ((2219, 0), ([], []))) := (kT_286 2204).trans rfl
set_option maxRecDepth 100000 in
theorem r_286_2207 : xT.1 286 2207 = some (.aload_n 3, ((0, 0), ([], []))) := (kT_286 2207).trans rfl
set_option maxRecDepth 100000 in
theorem r_286_2208 : xT.1 286 2208 = some (.iconst 0, ((0, 0), ([.int 0], []))) := (kT_286 2208).trans rfl
set_option maxRecDepth 100000 in
theorem r_286_2209 : xT.1 286 2209 = some (.laload, ((0, 0), ([], []))) := (kT_286 2209).trans rfl
set_option maxRecDepth 100000 in
theorem r_286_2210 : xT.1 286 2210 = some (.iload 7, ((0, 0), ([], []))) := (kT_286 2210).trans rfl
set_option maxRecDepth 100000 in
theorem r_286_2212 : xT.1 286 2212 = some (.i2l, ((0, 0), ([], []))) := (kT_286 2212).trans rfl
set_option maxRecDepth 100000 in
theorem r_286_2213 : xT.1 286 2213 = some (.lcmp, ((0, 0), ([], []))) := (kT_286 2213).trans rfl
set_option maxRecDepth 100000 in
theorem r_286_2214 : xT.1 286 2214 = some (.ifCond .eq 5, ((2219, 0), ([], []))) := (kT_286 2214).trans rfl
set_option maxRecDepth 100000 in
theorem r_286_2217 : xT.1 286 2217 = some (.iconst 0, ((0, 0), ([.int 0], []))) := (kT_286 2217).trans rfl
set_option maxRecDepth 100000 in
theorem r_286_2218 : xT.1 286 2218 = some (.ireturn, ((0, 0), ([], []))) := (kT_286 2218).trans rfl
set_option maxRecDepth 100000 in
theorem r_286_2219 : xT.1 286 2219 = some (.goto 678, ((2897, 0), ([], []))) := (kT_286 2219).trans rfl
set_option maxRecDepth 100000 in
theorem r_286_2222 : xT.1 286 2222 = some (.aload_n 1, ((0, 0), ([], []))) := (kT_286 2222).trans rfl
set_option maxRecDepth 100000 in
theorem r_286_2223 : xT.1 286 2223 = some (.aload_n 0, ((0, 0), ([], []))) := (kT_286 2223).trans rfl
set_option maxRecDepth 100000 in
theorem r_286_2224 : xT.1 286 2224 = some (.iload 5, ((0, 0), ([], []))) := (kT_286 2224).trans rfl
set_option maxRecDepth 100000 in
theorem r_286_2226 : xT.1 286 2226 = some (.iconst 1, ((0, 0), ([.int 1], []))) := (kT_286 2226).trans rfl
set_option maxRecDepth 100000 in
theorem r_286_2227 : xT.1 286 2227 = some (.iadd, ((0, 0), ([], []))) := (kT_286 2227).trans rfl
set_option maxRecDepth 100000 in
theorem r_286_2228 : xT.1 286 2228 = some (.iaload, ((0, 0), ([], []))) := (kT_286 2228).trans rfl
set_option maxRecDepth 100000 in
theorem r_286_2229 : xT.1 286 2229 = some (.aload_n 3, ((0, 0), ([], []))) := (kT_286 2229).trans rfl
set_option maxRecDepth 100000 in
theorem r_286_2230 : xT.1 286 2230 = some (.invokestatic 287, ((274, 3), ([], [3]))) := (kT_286 2230).trans rfl
set_option maxRecDepth 100000 in
theorem r_286_2233 : xT.1 286 2233 = some (.istore 6, ((0, 0), ([], []))) := (kT_286 2233).trans rfl
set_option maxRecDepth 100000 in
theorem r_286_2235 : xT.1 286 2235 = some (.aload_n 2, ((0, 0), ([], []))) := (kT_286 2235).trans rfl
set_option maxRecDepth 100000 in
theorem r_286_2236 : xT.1 286 2236 = some (.aload_n 0, ((0, 0), ([], []))) := (kT_286 2236).trans rfl
set_option maxRecDepth 100000 in
theorem r_286_2237 : xT.1 286 2237 = some (.iload 5, ((0, 0), ([], []))) := (kT_286 2237).trans rfl
set_option maxRecDepth 100000 in
theorem r_286_2239 : xT.1 286 2239 = some (.iconst 1, ((0, 0), ([.int 1], []))) := (kT_286 2239).trans rfl
set_option maxRecDepth 100000 in
theorem r_286_2240 : xT.1 286 2240 = some (.iadd, ((0, 0), ([], []))) := (kT_286 2240).trans rfl
set_option maxRecDepth 100000 in
theorem r_286_2241 : xT.1 286 2241 = some (.iaload, ((0, 0), ([], []))) := (kT_286 2241).trans rfl
set_option maxRecDepth 100000 in
theorem r_286_2242 : xT.1 286 2242 = some (.invokevirtual 289, ((216, 2), ([], [0]))) := (kT_286 2242).trans rfl
set_option maxRecDepth 100000 in
theorem r_286_2245 : xT.1 286 2245 = some (.istore 7, ((0, 0), ([], []))) := (kT_286 2245).trans rfl
set_option maxRecDepth 100000 in
theorem r_286_2247 : xT.1 286 2247 = some (.aload_n 2, ((0, 0), ([], []))) := (kT_286 2247).trans rfl
set_option maxRecDepth 100000 in
theorem r_286_2248 : xT.1 286 2248 = some (.invokevirtual 170, ((149, 1), ([], [0]))) := (kT_286 2248).trans rfl
set_option maxRecDepth 100000 in
theorem r_286_2251 : xT.1 286 2251 = some (.iload 6, ((0, 0), ([], []))) := (kT_286 2251).trans rfl
set_option maxRecDepth 100000 in
theorem r_286_2253 : xT.1 286 2253 = some (.if_icmp .eq 5, ((2258, 0), ([], []))) := (kT_286 2253).trans rfl
set_option maxRecDepth 100000 in
theorem r_286_2256 : xT.1 286 2256 = some (.iconst 0, ((0, 0), ([.int 0], []))) := (kT_286 2256).trans rfl
set_option maxRecDepth 100000 in
theorem r_286_2257 : xT.1 286 2257 = some (.ireturn, ((0, 0), ([], []))) := (kT_286 2257).trans rfl
set_option maxRecDepth 100000 in
theorem r_286_2258 : xT.1 286 2258 = some (.iload 6, ((0, 0), ([], []))) := (kT_286 2258).trans rfl
set_option maxRecDepth 100000 in
theorem r_286_2260 : xT.1 286 2260 = some (.ifCond .ne 15, ((2275, 0), ([], []))) := (kT_286 2260).trans rfl
set_option maxRecDepth 100000 in
theorem r_286_2263 : xT.1 286 2263 = some (.aload_n 3, ((0, 0), ([], []))) := (kT_286 2263).trans rfl
set_option maxRecDepth 100000 in
theorem r_286_2264 : xT.1 286 2264 = some (.iconst 0, ((0, 0), ([.int 0], []))) := (kT_286 2264).trans rfl
set_option maxRecDepth 100000 in
theorem r_286_2265 : xT.1 286 2265 = some (.laload, ((0, 0), ([], []))) := (kT_286 2265).trans rfl
set_option maxRecDepth 100000 in
theorem r_286_2266 : xT.1 286 2266 = some (.iload 7, ((0, 0), ([], []))) := (kT_286 2266).trans rfl
set_option maxRecDepth 100000 in
theorem r_286_2268 : xT.1 286 2268 = some (.i2l, ((0, 0), ([], []))) := (kT_286 2268).trans rfl
set_option maxRecDepth 100000 in
theorem r_286_2269 : xT.1 286 2269 = some (.lcmp, ((0, 0), ([], []))) := (kT_286 2269).trans rfl
set_option maxRecDepth 100000 in
theorem r_286_2270 : xT.1 286 2270 = some (.ifCond .eq 5, ((2275, 0), ([], []))) := (kT_286 2270).trans rfl
set_option maxRecDepth 100000 in
theorem r_286_2273 : xT.1 286 2273 = some (.iconst 0, ((0, 0), ([.int 0], []))) := (kT_286 2273).trans rfl
set_option maxRecDepth 100000 in
theorem r_286_2274 : xT.1 286 2274 = some (.ireturn, ((0, 0), ([], []))) := (kT_286 2274).trans rfl
set_option maxRecDepth 100000 in
theorem r_286_2275 : xT.1 286 2275 = some (.goto 622, ((2897, 0), ([], []))) := (kT_286 2275).trans rfl
set_option maxRecDepth 100000 in
theorem r_286_2278 : xT.1 286 2278 = some (.aload_n 1, ((0, 0), ([], []))) := (kT_286 2278).trans rfl
set_option maxRecDepth 100000 in
theorem r_286_2279 : xT.1 286 2279 = some (.aload_n 0, ((0, 0), ([], []))) := (kT_286 2279).trans rfl
set_option maxRecDepth 100000 in
theorem r_286_2280 : xT.1 286 2280 = some (.iload 5, ((0, 0), ([], []))) := (kT_286 2280).trans rfl
set_option maxRecDepth 100000 in
theorem r_286_2282 : xT.1 286 2282 = some (.iconst 1, ((0, 0), ([.int 1], []))) := (kT_286 2282).trans rfl
set_option maxRecDepth 100000 in
theorem r_286_2283 : xT.1 286 2283 = some (.iadd, ((0, 0), ([], []))) := (kT_286 2283).trans rfl
set_option maxRecDepth 100000 in
theorem r_286_2284 : xT.1 286 2284 = some (.iaload, ((0, 0), ([], []))) := (kT_286 2284).trans rfl
set_option maxRecDepth 100000 in
theorem r_286_2285 : xT.1 286 2285 = some (.aload_n 3, ((0, 0), ([], []))) := (kT_286 2285).trans rfl
set_option maxRecDepth 100000 in
theorem r_286_2286 : xT.1 286 2286 = some (.invokestatic 290, ((275, 3), ([], [3]))) := (kT_286 2286).trans rfl
set_option maxRecDepth 100000 in
theorem r_286_2289 : xT.1 286 2289 = some (.istore 6, ((0, 0), ([], []))) := (kT_286 2289).trans rfl
set_option maxRecDepth 100000 in
theorem r_286_2291 : xT.1 286 2291 = some (.aload_n 2, ((0, 0), ([], []))) := (kT_286 2291).trans rfl
set_option maxRecDepth 100000 in
theorem r_286_2292 : xT.1 286 2292 = some (.aload_n 0, ((0, 0), ([], []))) := (kT_286 2292).trans rfl
set_option maxRecDepth 100000 in
theorem r_286_2293 : xT.1 286 2293 = some (.iload 5, ((0, 0), ([], []))) := (kT_286 2293).trans rfl
set_option maxRecDepth 100000 in
theorem r_286_2295 : xT.1 286 2295 = some (.iconst 1, ((0, 0), ([.int 1], []))) := (kT_286 2295).trans rfl
set_option maxRecDepth 100000 in
theorem r_286_2296 : xT.1 286 2296 = some (.iadd, ((0, 0), ([], []))) := (kT_286 2296).trans rfl
set_option maxRecDepth 100000 in
theorem r_286_2297 : xT.1 286 2297 = some (.iaload, ((0, 0), ([], []))) := (kT_286 2297).trans rfl
set_option maxRecDepth 100000 in
theorem r_286_2298 : xT.1 286 2298 = some (.invokevirtual 292, ((217, 2), ([], [0]))) := (kT_286 2298).trans rfl
set_option maxRecDepth 100000 in
theorem r_286_2301 : xT.1 286 2301 = some (.istore 7, ((0, 0), ([], []))) := (kT_286 2301).trans rfl
set_option maxRecDepth 100000 in
theorem r_286_2303 : xT.1 286 2303 = some (.aload_n 2, ((0, 0), ([], []))) := (kT_286 2303).trans rfl
set_option maxRecDepth 100000 in
theorem r_286_2304 : xT.1 286 2304 = some (.invokevirtual 170, ((149, 1), ([], [0]))) := (kT_286 2304).trans rfl
set_option maxRecDepth 100000 in
theorem r_286_2307 : xT.1 286 2307 = some (.iload 6, ((0, 0), ([], []))) := (kT_286 2307).trans rfl
set_option maxRecDepth 100000 in
theorem r_286_2309 : xT.1 286 2309 = some (.if_icmp .eq 5, ((2314, 0), ([], []))) := (kT_286 2309).trans rfl
set_option maxRecDepth 100000 in
theorem r_286_2312 : xT.1 286 2312 = some (.iconst 0, ((0, 0), ([.int 0], []))) := (kT_286 2312).trans rfl
set_option maxRecDepth 100000 in
theorem r_286_2313 : xT.1 286 2313 = some (.ireturn, ((0, 0), ([], []))) := (kT_286 2313).trans rfl
set_option maxRecDepth 100000 in
theorem r_286_2314 : xT.1 286 2314 = some (.iload 6, ((0, 0), ([], []))) := (kT_286 2314).trans rfl
set_option maxRecDepth 100000 in
theorem r_286_2316 : xT.1 286 2316 = some (.ifCond .ne 15, ((2331, 0), ([], []))) := (kT_286 2316).trans rfl
set_option maxRecDepth 100000 in
theorem r_286_2319 : xT.1 286 2319 = some (.aload_n 3, ((0, 0), ([], []))) := (kT_286 2319).trans rfl
set_option maxRecDepth 100000 in
theorem r_286_2320 : xT.1 286 2320 = some (.iconst 0, ((0, 0), ([.int 0], []))) := (kT_286 2320).trans rfl
set_option maxRecDepth 100000 in
theorem r_286_2321 : xT.1 286 2321 = some (.laload, ((0, 0), ([], []))) := (kT_286 2321).trans rfl
set_option maxRecDepth 100000 in
theorem r_286_2322 : xT.1 286 2322 = some (.iload 7, ((0, 0), ([], []))) := (kT_286 2322).trans rfl
set_option maxRecDepth 100000 in
theorem r_286_2324 : xT.1 286 2324 = some (.i2l, ((0, 0), ([], []))) := (kT_286 2324).trans rfl
set_option maxRecDepth 100000 in
theorem r_286_2325 : xT.1 286 2325 = some (.lcmp, ((0, 0), ([], []))) := (kT_286 2325).trans rfl
set_option maxRecDepth 100000 in
theorem r_286_2326 : xT.1 286 2326 = some (.ifCond .eq 5, ((2331, 0), ([], []))) := (kT_286 2326).trans rfl
set_option maxRecDepth 100000 in
theorem r_286_2329 : xT.1 286 2329 = some (.iconst 0, ((0, 0), ([.int 0], []))) := (kT_286 2329).trans rfl
set_option maxRecDepth 100000 in
theorem r_286_2330 : xT.1 286 2330 = some (.ireturn, ((0, 0), ([], []))) := (kT_286 2330).trans rfl
set_option maxRecDepth 100000 in
theorem r_286_2331 : xT.1 286 2331 = some (.goto 566, ((2897, 0), ([], []))) := (kT_286 2331).trans rfl
set_option maxRecDepth 100000 in
theorem r_286_2334 : xT.1 286 2334 = some (.aload_n 1, ((0, 0), ([], []))) := (kT_286 2334).trans rfl
set_option maxRecDepth 100000 in
theorem r_286_2335 : xT.1 286 2335 = some (.aload_n 0, ((0, 0), ([], []))) := (kT_286 2335).trans rfl
set_option maxRecDepth 100000 in
theorem r_286_2336 : xT.1 286 2336 = some (.iload 5, ((0, 0), ([], []))) := (kT_286 2336).trans rfl
set_option maxRecDepth 100000 in
theorem r_286_2338 : xT.1 286 2338 = some (.iconst 1, ((0, 0), ([.int 1], []))) := (kT_286 2338).trans rfl
set_option maxRecDepth 100000 in
theorem r_286_2339 : xT.1 286 2339 = some (.iadd, ((0, 0), ([], []))) := (kT_286 2339).trans rfl
set_option maxRecDepth 100000 in
theorem r_286_2340 : xT.1 286 2340 = some (.iaload, ((0, 0), ([], []))) := (kT_286 2340).trans rfl
set_option maxRecDepth 100000 in
theorem r_286_2341 : xT.1 286 2341 = some (.aload_n 3, ((0, 0), ([], []))) := (kT_286 2341).trans rfl
set_option maxRecDepth 100000 in
theorem r_286_2342 : xT.1 286 2342 = some (.invokestatic 293, ((276, 3), ([], [3]))) := (kT_286 2342).trans rfl
set_option maxRecDepth 100000 in
theorem r_286_2345 : xT.1 286 2345 = some (.istore 6, ((0, 0), ([], []))) := (kT_286 2345).trans rfl
set_option maxRecDepth 100000 in
theorem r_286_2347 : xT.1 286 2347 = some (.aload_n 2, ((0, 0), ([], []))) := (kT_286 2347).trans rfl
set_option maxRecDepth 100000 in
theorem r_286_2348 : xT.1 286 2348 = some (.aload_n 0, ((0, 0), ([], []))) := (kT_286 2348).trans rfl
set_option maxRecDepth 100000 in
theorem r_286_2349 : xT.1 286 2349 = some (.iload 5, ((0, 0), ([], []))) := (kT_286 2349).trans rfl
set_option maxRecDepth 100000 in
theorem r_286_2351 : xT.1 286 2351 = some (.iconst 1, ((0, 0), ([.int 1], []))) := (kT_286 2351).trans rfl
set_option maxRecDepth 100000 in
theorem r_286_2352 : xT.1 286 2352 = some (.iadd, ((0, 0), ([], []))) := (kT_286 2352).trans rfl
set_option maxRecDepth 100000 in
theorem r_286_2353 : xT.1 286 2353 = some (.iaload, ((0, 0), ([], []))) := (kT_286 2353).trans rfl
set_option maxRecDepth 100000 in
theorem r_286_2354 : xT.1 286 2354 = some (.invokevirtual 295, ((218, 2), ([], [0]))) := (kT_286 2354).trans rfl
set_option maxRecDepth 100000 in
theorem r_286_2357 : xT.1 286 2357 = some (.istore 7, ((0, 0), ([], []))) := (kT_286 2357).trans rfl
set_option maxRecDepth 100000 in
theorem r_286_2359 : xT.1 286 2359 = some (.aload_n 2, ((0, 0), ([], []))) := (kT_286 2359).trans rfl
set_option maxRecDepth 100000 in
theorem r_286_2360 : xT.1 286 2360 = some (.invokevirtual 170, ((149, 1), ([], [0]))) := (kT_286 2360).trans rfl
set_option maxRecDepth 100000 in
theorem r_286_2363 : xT.1 286 2363 = some (.iload 6, ((0, 0), ([], []))) := (kT_286 2363).trans rfl
set_option maxRecDepth 100000 in
theorem r_286_2365 : xT.1 286 2365 = some (.if_icmp .eq 5, ((2370, 0), ([], []))) := (kT_286 2365).trans rfl
set_option maxRecDepth 100000 in
theorem r_286_2368 : xT.1 286 2368 = some (.iconst 0, ((0, 0), ([.int 0], []))) := (kT_286 2368).trans rfl
set_option maxRecDepth 100000 in
theorem r_286_2369 : xT.1 286 2369 = some (.ireturn, ((0, 0), ([], []))) := (kT_286 2369).trans rfl
set_option maxRecDepth 100000 in
theorem r_286_2370 : xT.1 286 2370 = some (.iload 6, ((0, 0), ([], []))) := (kT_286 2370).trans rfl
set_option maxRecDepth 100000 in
theorem r_286_2372 : xT.1 286 2372 = some (.ifCond .ne 15, ((2387, 0), ([], []))) := (kT_286 2372).trans rfl
set_option maxRecDepth 100000 in
theorem r_286_2375 : xT.1 286 2375 = some (.aload_n 3, ((0, 0), ([], []))) := (kT_286 2375).trans rfl
set_option maxRecDepth 100000 in
theorem r_286_2376 : xT.1 286 2376 = some (.iconst 0, ((0, 0), ([.int 0], []))) := (kT_286 2376).trans rfl
set_option maxRecDepth 100000 in
theorem r_286_2377 : xT.1 286 2377 = some (.laload, ((0, 0), ([], []))) := (kT_286 2377).trans rfl
set_option maxRecDepth 100000 in
theorem r_286_2378 : xT.1 286 2378 = some (.iload 7, ((0, 0), ([], []))) := (kT_286 2378).trans rfl
set_option maxRecDepth 100000 in
theorem r_286_2380 : xT.1 286 2380 = some (.i2l, ((0, 0), ([], []))) := (kT_286 2380).trans rfl
set_option maxRecDepth 100000 in
theorem r_286_2381 : xT.1 286 2381 = some (.lcmp, ((0, 0), ([], []))) := (kT_286 2381).trans rfl
set_option maxRecDepth 100000 in
theorem r_286_2382 : xT.1 286 2382 = some (.ifCond .eq 5, ((2387, 0), ([], []))) := (kT_286 2382).trans rfl
set_option maxRecDepth 100000 in
theorem r_286_2385 : xT.1 286 2385 = some (.iconst 0, ((0, 0), ([.int 0], []))) := (kT_286 2385).trans rfl
set_option maxRecDepth 100000 in
theorem r_286_2386 : xT.1 286 2386 = some (.ireturn, ((0, 0), ([], []))) := (kT_286 2386).trans rfl
set_option maxRecDepth 100000 in
theorem r_286_2387 : xT.1 286 2387 = some (.goto 510, ((2897, 0), ([], []))) := (kT_286 2387).trans rfl
set_option maxRecDepth 100000 in
theorem r_286_2390 : xT.1 286 2390 = some (.aload_n 1, ((0, 0), ([], []))) := (kT_286 2390).trans rfl
set_option maxRecDepth 100000 in
theorem r_286_2391 : xT.1 286 2391 = some (.aload_n 0, ((0, 0), ([], []))) := (kT_286 2391).trans rfl
set_option maxRecDepth 100000 in
theorem r_286_2392 : xT.1 286 2392 = some (.iload 5, ((0, 0), ([], []))) := (kT_286 2392).trans rfl
set_option maxRecDepth 100000 in
theorem r_286_2394 : xT.1 286 2394 = some (.iconst 1, ((0, 0), ([.int 1], []))) := (kT_286 2394).trans rfl
set_option maxRecDepth 100000 in
theorem r_286_2395 : xT.1 286 2395 = some (.iadd, ((0, 0), ([], []))) := (kT_286 2395).trans rfl
set_option maxRecDepth 100000 in
theorem r_286_2396 : xT.1 286 2396 = some (.iaload, ((0, 0), ([], []))) := (kT_286 2396).trans rfl
set_option maxRecDepth 100000 in
theorem r_286_2397 : xT.1 286 2397 = some (.aload 4, ((0, 0), ([], []))) := (kT_286 2397).trans rfl
set_option maxRecDepth 100000 in
theorem r_286_2399 : xT.1 286 2399 = some (.invokestatic 296, ((277, 3), ([], [3]))) := (kT_286 2399).trans rfl
set_option maxRecDepth 100000 in
theorem r_286_2402 : xT.1 286 2402 = some (.istore 6, ((0, 0), ([], []))) := (kT_286 2402).trans rfl
set_option maxRecDepth 100000 in
theorem r_286_2404 : xT.1 286 2404 = some (.aload_n 2, ((0, 0), ([], []))) := (kT_286 2404).trans rfl
set_option maxRecDepth 100000 in
theorem r_286_2405 : xT.1 286 2405 = some (.aload_n 0, ((0, 0), ([], []))) := (kT_286 2405).trans rfl
set_option maxRecDepth 100000 in
theorem r_286_2406 : xT.1 286 2406 = some (.iload 5, ((0, 0), ([], []))) := (kT_286 2406).trans rfl
set_option maxRecDepth 100000 in
theorem r_286_2408 : xT.1 286 2408 = some (.iconst 1, ((0, 0), ([.int 1], []))) := (kT_286 2408).trans rfl
set_option maxRecDepth 100000 in
theorem r_286_2409 : xT.1 286 2409 = some (.iadd, ((0, 0), ([], []))) := (kT_286 2409).trans rfl
set_option maxRecDepth 100000 in
theorem r_286_2410 : xT.1 286 2410 = some (.iaload, ((0, 0), ([], []))) := (kT_286 2410).trans rfl
set_option maxRecDepth 100000 in
theorem r_286_2411 : xT.1 286 2411 = some (.invokevirtual 298, ((219, 2), ([], [0]))) := (kT_286 2411).trans rfl
set_option maxRecDepth 100000 in
theorem r_286_2414 : xT.1 286 2414 = some (.fstore 7, ((0, 0), ([], []))) := (kT_286 2414).trans rfl
set_option maxRecDepth 100000 in
theorem r_286_2416 : xT.1 286 2416 = some (.aload_n 2, ((0, 0), ([], []))) := (kT_286 2416).trans rfl
set_option maxRecDepth 100000 in
theorem r_286_2417 : xT.1 286 2417 = some (.invokevirtual 170, ((149, 1), ([], [0]))) := (kT_286 2417).trans rfl
set_option maxRecDepth 100000 in
theorem r_286_2420 : xT.1 286 2420 = some (.iload 6, ((0, 0), ([], []))) := (kT_286 2420).trans rfl
set_option maxRecDepth 100000 in
theorem r_286_2422 : xT.1 286 2422 = some (.if_icmp .eq 5, ((2427, 0), ([], []))) := (kT_286 2422).trans rfl
set_option maxRecDepth 100000 in
theorem r_286_2425 : xT.1 286 2425 = some (.iconst 0, ((0, 0), ([.int 0], []))) := (kT_286 2425).trans rfl
set_option maxRecDepth 100000 in
theorem r_286_2426 : xT.1 286 2426 = some (.ireturn, ((0, 0), ([], []))) := (kT_286 2426).trans rfl
set_option maxRecDepth 100000 in
theorem r_286_2427 : xT.1 286 2427 = some (.iload 6, ((0, 0), ([], []))) := (kT_286 2427).trans rfl
set_option maxRecDepth 100000 in
theorem r_286_2429 : xT.1 286 2429 = some (.ifCond .ne 36, ((2465, 0), ([], []))) := (kT_286 2429).trans rfl
set_option maxRecDepth 100000 in
theorem r_286_2432 : xT.1 286 2432 = some (.aload 4, ((0, 0), ([], []))) := (kT_286 2432).trans rfl
set_option maxRecDepth 100000 in
theorem r_286_2434 : xT.1 286 2434 = some (.iconst 0, ((0, 0), ([.int 0], []))) := (kT_286 2434).trans rfl
set_option maxRecDepth 100000 in
theorem r_286_2435 : xT.1 286 2435 = some (.daload, ((0, 0), ([], []))) := (kT_286 2435).trans rfl
set_option maxRecDepth 100000 in
theorem r_286_2436 : xT.1 286 2436 = some (.fload 7, ((0, 0), ([], []))) := (kT_286 2436).trans rfl
set_option maxRecDepth 100000 in
theorem r_286_2438 : xT.1 286 2438 = some (.f2d, ((0, 0), ([], []))) := (kT_286 2438).trans rfl
set_option maxRecDepth 100000 in
theorem r_286_2439 : xT.1 286 2439 = some (.dcmp .l, ((0, 0), ([], []))) := (kT_286 2439).trans rfl
set_option maxRecDepth 100000 in
theorem r_286_2440 : xT.1 286 2440 = some (.ifCond .eq 25, ((2465, 0), ([], []))) := (kT_286 2440).trans rfl
set_option maxRecDepth 100000 in
theorem r_286_2443 : xT.1 286 2443 = some (.aload 4, ((0, 0), ([], []))) := (kT_286 2443).trans rfl
set_option maxRecDepth 100000 in
theorem r_286_2445 : xT.1 286 2445 = some (.iconst 0, ((0, 0), ([.int 0], []))) := (kT_286 2445).trans rfl
set_option maxRecDepth 100000 in
theorem r_286_2446 : xT.1 286 2446 = some (.daload, ((0, 0), ([], []))) := (kT_286 2446).trans rfl
set_option maxRecDepth 100000 in
theorem r_286_2447 : xT.1 286 2447 = some (.aload 4, ((0, 0), ([], []))) := (kT_286 2447).trans rfl
set_option maxRecDepth 100000 in
theorem r_286_2449 : xT.1 286 2449 = some (.iconst 0, ((0, 0), ([.int 0], []))) := (kT_286 2449).trans rfl
set_option maxRecDepth 100000 in
theorem r_286_2450 : xT.1 286 2450 = some (.daload, ((0, 0), ([], []))) := (kT_286 2450).trans rfl
set_option maxRecDepth 100000 in
theorem r_286_2451 : xT.1 286 2451 = some (.dcmp .l, ((0, 0), ([], []))) := (kT_286 2451).trans rfl
set_option maxRecDepth 100000 in
theorem r_286_2452 : xT.1 286 2452 = some (.ifCond .eq 11, ((2463, 0), ([], []))) := (kT_286 2452).trans rfl
set_option maxRecDepth 100000 in
theorem r_286_2455 : xT.1 286 2455 = some (.fload 7, ((0, 0), ([], []))) := (kT_286 2455).trans rfl
set_option maxRecDepth 100000 in
theorem r_286_2457 : xT.1 286 2457 = some (.fload 7, ((0, 0), ([], []))) := (kT_286 2457).trans rfl
set_option maxRecDepth 100000 in
theorem r_286_2459 : xT.1 286 2459 = some (.fcmp .l, ((0, 0), ([], []))) := (kT_286 2459).trans rfl
set_option maxRecDepth 100000 in
theorem r_286_2460 : xT.1 286 2460 = some (.ifCond .ne 5, ((2465, 0), ([], []))) := (kT_286 2460).trans rfl
set_option maxRecDepth 100000 in
theorem r_286_2463 : xT.1 286 2463 = some (.iconst 0, ((0, 0), ([.int 0], []))) := (kT_286 2463).trans rfl
set_option maxRecDepth 100000 in
theorem r_286_2464 : xT.1 286 2464 = some (.ireturn, ((0, 0), ([], []))) := (kT_286 2464).trans rfl
set_option maxRecDepth 100000 in
theorem r_286_2465 : xT.1 286 2465 = some (.goto 432, ((2897, 0), ([], []))) := (kT_286 2465).trans rfl
set_option maxRecDepth 100000 in
theorem r_286_2468 : xT.1 286 2468 = some (.aload_n 1, ((0, 0), ([], []))) := (kT_286 2468).trans rfl
set_option maxRecDepth 100000 in
theorem r_286_2469 : xT.1 286 2469 = some (.invokevirtual 299, ((124, 1), ([], [0]))) := (kT_286 2469).trans rfl
set_option maxRecDepth 100000 in
theorem r_286_2472 : xT.1 286 2472 = some (.aload_n 2, ((0, 0), ([], []))) := (kT_286 2472).trans rfl
set_option maxRecDepth 100000 in
theorem r_286_2473 : xT.1 286 2473 = some (.invokevirtual 303, ((220, 1), ([], [0]))) := (kT_286 2473).trans rfl
set_option maxRecDepth 100000 in
theorem r_286_2476 : xT.1 286 2476 = some (.if_icmp .eq 421, ((2897, 0), ([], []))) := (kT_286 2476).trans rfl
set_option maxRecDepth 100000 in
theorem r_286_2479 : xT.1 286 2479 = some (.iconst 0, ((0, 0), ([.int 0], []))) := (kT_286 2479).trans rfl
set_option maxRecDepth 100000 in
theorem r_286_2480 : xT.1 286 2480 = some (.ireturn, ((0, 0), ([], []))) := (kT_286 2480).trans rfl
set_option maxRecDepth 100000 in
theorem r_286_2481 : xT.1 286 2481 = some (.aload_n 1, ((0, 0), ([], []))) := (kT_286 2481).trans rfl
set_option maxRecDepth 100000 in
theorem r_286_2482 : xT.1 286 2482 = some (.aload_n 0, ((0, 0), ([], []))) := (kT_286 2482).trans rfl
set_option maxRecDepth 100000 in
theorem r_286_2483 : xT.1 286 2483 = some (.iload 5, ((0, 0), ([], []))) := (kT_286 2483).trans rfl
set_option maxRecDepth 100000 in
theorem r_286_2485 : xT.1 286 2485 = some (.iconst 1, ((0, 0), ([.int 1], []))) := (kT_286 2485).trans rfl
set_option maxRecDepth 100000 in
theorem r_286_2486 : xT.1 286 2486 = some (.iadd, ((0, 0), ([], []))) := (kT_286 2486).trans rfl
set_option maxRecDepth 100000 in
theorem r_286_2487 : xT.1 286 2487 = some (.iaload, ((0, 0), ([], []))) := (kT_286 2487).trans rfl
set_option maxRecDepth 100000 in
theorem r_286_2488 : xT.1 286 2488 = some (.i2c, ((0, 0), ([], []))) := (kT_286 2488).trans rfl
set_option maxRecDepth 100000 in
theorem r_286_2489 : xT.1 286 2489 = some (.aload_n 3, ((0, 0), ([], []))) := (kT_286 2489).trans rfl
set_option maxRecDepth 100000 in
theorem r_286_2490 : xT.1 286 2490 = some (.invokestatic 304, ((278, 3), ([], [3]))) := (kT_286 2490).trans rfl
set_option maxRecDepth 100000 in
theorem r_286_2493 : xT.1 286 2493 = some (.istore 6, ((0, 0), ([], []))) := (kT_286 2493).trans rfl
set_option maxRecDepth 100000 in
theorem r_286_2495 : xT.1 286 2495 = some (.aload_n 2, ((0, 0), ([], []))) := (kT_286 2495).trans rfl
set_option maxRecDepth 100000 in
theorem r_286_2496 : xT.1 286 2496 = some (.aload_n 0, ((0, 0), ([], []))) := (kT_286 2496).trans rfl
set_option maxRecDepth 100000 in
theorem r_286_2497 : xT.1 286 2497 = some (.iload 5, ((0, 0), ([], []))) := (kT_286 2497).trans rfl
set_option maxRecDepth 100000 in
theorem r_286_2499 : xT.1 286 2499 = some (.iconst 1, ((0, 0), ([.int 1], []))) := (kT_286 2499).trans rfl
set_option maxRecDepth 100000 in
theorem r_286_2500 : xT.1 286 2500 = some (.iadd, ((0, 0), ([], []))) := (kT_286 2500).trans rfl
set_option maxRecDepth 100000 in
theorem r_286_2501 : xT.1 286 2501 = some (.iaload, ((0, 0), ([], []))) := (kT_286 2501).trans rfl
set_option maxRecDepth 100000 in
theorem r_286_2502 : xT.1 286 2502 = some (.i2c, ((0, 0), ([], []))) := (kT_286 2502).trans rfl
set_option maxRecDepth 100000 in
theorem r_286_2503 : xT.1 286 2503 = some (.invokevirtual 307, ((221, 2), ([], [0]))) := (kT_286 2503).trans rfl
set_option maxRecDepth 100000 in
theorem r_286_2506 : xT.1 286 2506 = some (.istore 7, ((0, 0), ([], []))) := (kT_286 2506).trans rfl
set_option maxRecDepth 100000 in
theorem r_286_2508 : xT.1 286 2508 = some (.aload_n 2, ((0, 0), ([], []))) := (kT_286 2508).trans rfl
set_option maxRecDepth 100000 in
theorem r_286_2509 : xT.1 286 2509 = some (.invokevirtual 170, ((149, 1), ([], [0]))) := (kT_286 2509).trans rfl
set_option maxRecDepth 100000 in
theorem r_286_2512 : xT.1 286 2512 = some (.iload 6, ((0, 0), ([], []))) := (kT_286 2512).trans rfl
set_option maxRecDepth 100000 in
theorem r_286_2514 : xT.1 286 2514 = some (.if_icmp .eq 5, ((2519, 0), ([], []))) := (kT_286 2514).trans rfl
set_option maxRecDepth 100000 in
theorem r_286_2517 : xT.1 286 2517 = some (.iconst 0, ((0, 0), ([.int 0], []))) := (kT_286 2517).trans rfl
set_option maxRecDepth 100000 in
theorem r_286_2518 : xT.1 286 2518 = some (.ireturn, ((0, 0), ([], []))) := (kT_286 2518).trans rfl
set_option maxRecDepth 100000 in
theorem r_286_2519 : xT.1 286 2519 = some (.iload 6, ((0, 0), ([], []))) := (kT_286 2519).trans rfl
set_option maxRecDepth 100000 in
theorem r_286_2521 : xT.1 286 2521 = some (.ifCond .ne 15, ((2536, 0), ([], []))) := (kT_286 2521).trans rfl
set_option maxRecDepth 100000 in
theorem r_286_2524 : xT.1 286 2524 = some (.aload_n 3, ((0, 0), ([], []))) := (kT_286 2524).trans rfl
set_option maxRecDepth 100000 in
theorem r_286_2525 : xT.1 286 2525 = some (.iconst 0, ((0, 0), ([.int 0], []))) := (kT_286 2525).trans rfl
set_option maxRecDepth 100000 in
theorem r_286_2526 : xT.1 286 2526 = some (.laload, ((0, 0), ([], []))) := (kT_286 2526).trans rfl
set_option maxRecDepth 100000 in
theorem r_286_2527 : xT.1 286 2527 = some (.iload 7, ((0, 0), ([], []))) := (kT_286 2527).trans rfl
set_option maxRecDepth 100000 in
theorem r_286_2529 : xT.1 286 2529 = some (.i2l, ((0, 0), ([], []))) := (kT_286 2529).trans rfl
set_option maxRecDepth 100000 in
theorem r_286_2530 : xT.1 286 2530 = some (.lcmp, ((0, 0), ([], []))) := (kT_286 2530).trans rfl
set_option maxRecDepth 100000 in
theorem r_286_2531 : xT.1 286 2531 = some (.ifCond .eq 5, ((2536, 0), ([], []))) := (kT_286 2531).trans rfl
set_option maxRecDepth 100000 in
theorem r_286_2534 : xT.1 286 2534 = some (.iconst 0, ((0, 0), ([.int 0], []))) := (kT_286 2534).trans rfl
set_option maxRecDepth 100000 in
theorem r_286_2535 : xT.1 286 2535 = some (.ireturn, ((0, 0), ([], []))) := (kT_286 2535).trans rfl
set_option maxRecDepth 100000 in
theorem r_286_2536 : xT.1 286 2536 = some (.goto 361, ((2897, 0), ([], []))) := (kT_286 2536).trans rfl
set_option maxRecDepth 100000 in
theorem r_286_2539 : xT.1 286 2539 = some (.aload_n 1, ((0, 0), ([], []))) := (kT_286 2539).trans rfl
set_option maxRecDepth 100000 in
theorem r_286_2540 : xT.1 286 2540 = some (.aload_n 3, ((0, 0), ([], []))) := (kT_286 2540).trans rfl
set_option maxRecDepth 100000 in
theorem r_286_2541 : xT.1 286 2541 = some (.invokestatic 308, ((279, 2), ([], [3]))) := (kT_286 2541).trans rfl
set_option maxRecDepth 100000 in
theorem r_286_2544 : xT.1 286 2544 = some (.istore 6, ((0, 0), ([], []))) := (kT_286 2544).trans rfl
set_option maxRecDepth 100000 in
theorem r_286_2546 : xT.1 286 2546 = some (.aload_n 2, ((0, 0), ([], []))) := (kT_286 2546).trans rfl
set_option maxRecDepth 100000 in
theorem r_286_2547 : xT.1 286 2547 = some (.invokevirtual 310, ((231, 1), ([], [0]))) := (kT_286 2547).trans rfl
set_option maxRecDepth 100000 in
theorem r_286_2550 : xT.1 286 2550 = some (.istore 7, ((0, 0), ([], []))) := (kT_286 2550).trans rfl
set_option maxRecDepth 100000 in
theorem r_286_2552 : xT.1 286 2552 = some (.aload_n 2, ((0, 0), ([], []))) := (kT_286 2552).trans rfl
set_option maxRecDepth 100000 in
theorem r_286_2553 : xT.1 286 2553 = some (.invokevirtual 170, ((149, 1), ([], [0]))) := (kT_286 2553).trans rfl
set_option maxRecDepth 100000 in
theorem r_286_2556 : xT.1 286 2556 = some (.iload 6, ((0, 0), ([], []))) := (kT_286 2556).trans rfl
set_option maxRecDepth 100000 in
theorem r_286_2558 : xT.1 286 2558 = some (.if_icmp .eq 5, ((2563, 0), ([], []))) := (kT_286 2558).trans rfl
set_option maxRecDepth 100000 in
theorem r_286_2561 : xT.1 286 2561 = some (.iconst 0, ((0, 0), ([.int 0], []))) := (kT_286 2561).trans rfl
set_option maxRecDepth 100000 in
theorem r_286_2562 : xT.1 286 2562 = some (.ireturn, ((0, 0), ([], []))) := (kT_286 2562).trans rfl
set_option maxRecDepth 100000 in
theorem r_286_2563 : xT.1 286 2563 = some (.iload 6, ((0, 0), ([], []))) := (kT_286 2563).trans rfl
set_option maxRecDepth 100000 in
theorem r_286_2565 : xT.1 286 2565 = some (.ifCond .ne 15, ((2580, 0), ([], []))) := (kT_286 2565).trans rfl
set_option maxRecDepth 100000 in
theorem r_286_2568 : xT.1 286 2568 = some (.aload_n 3, ((0, 0), ([], []))) := (kT_286 2568).trans rfl
set_option maxRecDepth 100000 in
theorem r_286_2569 : xT.1 286 2569 = some (.iconst 0, ((0, 0), ([.int 0], []))) := (kT_286 2569).trans rfl
set_option maxRecDepth 100000 in
theorem r_286_2570 : xT.1 286 2570 = some (.laload, ((0, 0), ([], []))) := (kT_286 2570).trans rfl
set_option maxRecDepth 100000 in
theorem r_286_2571 : xT.1 286 2571 = some (.iload 7, ((0, 0), ([], []))) := (kT_286 2571).trans rfl
set_option maxRecDepth 100000 in
theorem r_286_2573 : xT.1 286 2573 = some (.i2l, ((0, 0), ([], []))) := (kT_286 2573).trans rfl
set_option maxRecDepth 100000 in
theorem r_286_2574 : xT.1 286 2574 = some (.lcmp, ((0, 0), ([], []))) := (kT_286 2574).trans rfl
set_option maxRecDepth 100000 in
theorem r_286_2575 : xT.1 286 2575 = some (.ifCond .eq 5, ((2580, 0), ([], []))) := (kT_286 2575).trans rfl
set_option maxRecDepth 100000 in
theorem r_286_2578 : xT.1 286 2578 = some (.iconst 0, ((0, 0), ([.int 0], []))) := (kT_286 2578).trans rfl
set_option maxRecDepth 100000 in
theorem r_286_2579 : xT.1 286 2579 = some (.ireturn, ((0, 0), ([], []))) := (kT_286 2579).trans rfl
set_option maxRecDepth 100000 in
theorem r_286_2580 : xT.1 286 2580 = some (.goto 317, ((2897, 0), ([], []))) := (kT_286 2580).trans rfl
set_option maxRecDepth 100000 in
theorem r_286_2583 : xT.1 286 2583 = some (.aload_n 1, ((0, 0), ([], []))) := (kT_286 2583).trans rfl
set_option maxRecDepth 100000 in
theorem r_286_2584 : xT.1 286 2584 = some (.aload_n 3, ((0, 0), ([], []))) := (kT_286 2584).trans rfl
set_option maxRecDepth 100000 in
theorem r_286_2585 : xT.1 286 2585 = some (.invokestatic 311, ((280, 2), ([], [3]))) := (kT_286 2585).trans rfl
set_option maxRecDepth 100000 in
theorem r_286_2588 : xT.1 286 2588 = some (.istore 6, ((0, 0), ([], []))) := (kT_286 2588).trans rfl
set_option maxRecDepth 100000 in
theorem r_286_2590 : xT.1 286 2590 = some (.aload_n 2, ((0, 0), ([], []))) := (kT_286 2590).trans rfl
set_option maxRecDepth 100000 in
theorem r_286_2591 : xT.1 286 2591 = some (.invokevirtual 313, ((232, 1), ([], [0]))) := (kT_286 2591).trans rfl
set_option maxRecDepth 100000 in
theorem r_286_2594 : xT.1 286 2594 = some (.istore 7, ((0, 0), ([], []))) := (kT_286 2594).trans rfl
set_option maxRecDepth 100000 in
theorem r_286_2596 : xT.1 286 2596 = some (.aload_n 2, ((0, 0), ([], []))) := (kT_286 2596).trans rfl
set_option maxRecDepth 100000 in
theorem r_286_2597 : xT.1 286 2597 = some (.invokevirtual 170, ((149, 1), ([], [0]))) := (kT_286 2597).trans rfl
set_option maxRecDepth 100000 in
theorem r_286_2600 : xT.1 286 2600 = some (.iload 6, ((0, 0), ([], []))) := (kT_286 2600).trans rfl
set_option maxRecDepth 100000 in
theorem r_286_2602 : xT.1 286 2602 = some (.if_icmp .eq 5, ((2607, 0), ([], []))) := (kT_286 2602).trans rfl
set_option maxRecDepth 100000 in
theorem r_286_2605 : xT.1 286 2605 = some (.iconst 0, ((0, 0), ([.int 0], []))) := (kT_286 2605).trans rfl
set_option maxRecDepth 100000 in
theorem r_286_2606 : xT.1 286 2606 = some (.ireturn, ((0, 0), ([], []))) := (kT_286 2606).trans rfl
set_option maxRecDepth 100000 in
theorem r_286_2607 : xT.1 286 2607 = some (.iload 6, ((0, 0), ([], []))) := (kT_286 2607).trans rfl
set_option maxRecDepth 100000 in
theorem r_286_2609 : xT.1 286 2609 = some (.ifCond .ne 15, ((2624, 0), ([], []))) := (kT_286 2609).trans rfl
set_option maxRecDepth 100000 in
theorem r_286_2612 : xT.1 286 2612 = some (.aload_n 3, ((0, 0), ([], []))) := (kT_286 2612).trans rfl
set_option maxRecDepth 100000 in
theorem r_286_2613 : xT.1 286 2613 = some (.iconst 0, ((0, 0), ([.int 0], []))) := (kT_286 2613).trans rfl
set_option maxRecDepth 100000 in
theorem r_286_2614 : xT.1 286 2614 = some (.laload, ((0, 0), ([], []))) := (kT_286 2614).trans rfl
set_option maxRecDepth 100000 in
theorem r_286_2615 : xT.1 286 2615 = some (.iload 7, ((0, 0), ([], []))) := (kT_286 2615).trans rfl
set_option maxRecDepth 100000 in
theorem r_286_2617 : xT.1 286 2617 = some (.i2l, ((0, 0), ([], []))) := (kT_286 2617).trans rfl
set_option maxRecDepth 100000 in
theorem r_286_2618 : xT.1 286 2618 = some (.lcmp, ((0, 0), ([], []))) := (kT_286 2618).trans rfl
set_option maxRecDepth 100000 in
theorem r_286_2619 : xT.1 286 2619 = some (.ifCond .eq 5, ((2624, 0), ([], []))) := (kT_286 2619).trans rfl
set_option maxRecDepth 100000 in
theorem r_286_2622 : xT.1 286 2622 = some (.iconst 0, ((0, 0), ([.int 0], []))) := (kT_286 2622).trans rfl
set_option maxRecDepth 100000 in
theorem r_286_2623 : xT.1 286 2623 = some (.ireturn, ((0, 0), ([], []))) := (kT_286 2623).trans rfl
set_option maxRecDepth 100000 in
theorem r_286_2624 : xT.1 286 2624 = some (.goto 273, ((2897, 0), ([], []))) := (kT_286 2624).trans rfl
set_option maxRecDepth 100000 in
theorem r_286_2627 : xT.1 286 2627 = some (.aload_n 1, ((0, 0), ([], []))) := (kT_286 2627).trans rfl
set_option maxRecDepth 100000 in
theorem r_286_2628 : xT.1 286 2628 = some (.aload_n 3, ((0, 0), ([], []))) := (kT_286 2628).trans rfl
set_option maxRecDepth 100000 in
theorem r_286_2629 : xT.1 286 2629 = some (.invokestatic 314, ((281, 2), ([], [3]))) := (kT_286 2629).trans rfl
set_option maxRecDepth 100000 in
theorem r_286_2632 : xT.1 286 2632 = some (.istore 6, ((0, 0), ([], []))) := (kT_286 2632).trans rfl
set_option maxRecDepth 100000 in
theorem r_286_2634 : xT.1 286 2634 = some (.aload_n 2, ((0, 0), ([], []))) := (kT_286 2634).trans rfl
set_option maxRecDepth 100000 in
theorem r_286_2635 : xT.1 286 2635 = some (.invokevirtual 316, ((233, 1), ([], [0]))) := (kT_286 2635).trans rfl
set_option maxRecDepth 100000 in
theorem r_286_2638 : xT.1 286 2638 = some (.istore 7, ((0, 0), ([], []))) := (kT_286 2638).trans rfl
set_option maxRecDepth 100000 in
theorem r_286_2640 : xT.1 286 2640 = some (.aload_n 2, ((0, 0), ([], []))) := (kT_286 2640).trans rfl
set_option maxRecDepth 100000 in
theorem r_286_2641 : xT.1 286 2641 = some (.invokevirtual 170, ((149, 1), ([], [0]))) := (kT_286 2641).trans rfl
set_option maxRecDepth 100000 in
theorem r_286_2644 : xT.1 286 2644 = some (.iload 6, ((0, 0), ([], []))) := (kT_286 2644).trans rfl
set_option maxRecDepth 100000 in
theorem r_286_2646 : xT.1 286 2646 = some (.if_icmp .eq 5, ((2651, 0), ([], []))) := (kT_286 2646).trans rfl
set_option maxRecDepth 100000 in
theorem r_286_2649 : xT.1 286 2649 = some (.iconst 0, ((0, 0), ([.int 0], []))) := (kT_286 2649).trans rfl
set_option maxRecDepth 100000 in
theorem r_286_2650 : xT.1 286 2650 = some (.ireturn, ((0, 0), ([], []))) := (kT_286 2650).trans rfl
set_option maxRecDepth 100000 in
theorem r_286_2651 : xT.1 286 2651 = some (.iload 6, ((0, 0), ([], []))) := (kT_286 2651).trans rfl
set_option maxRecDepth 100000 in
theorem r_286_2653 : xT.1 286 2653 = some (.ifCond .ne 15, ((2668, 0), ([], []))) := (kT_286 2653).trans rfl
set_option maxRecDepth 100000 in
theorem r_286_2656 : xT.1 286 2656 = some (.aload_n 3, ((0, 0), ([], []))) := (kT_286 2656).trans rfl
set_option maxRecDepth 100000 in
theorem r_286_2657 : xT.1 286 2657 = some (.iconst 0, ((0, 0), ([.int 0], []))) := (kT_286 2657).trans rfl
set_option maxRecDepth 100000 in
theorem r_286_2658 : xT.1 286 2658 = some (.laload, ((0, 0), ([], []))) := (kT_286 2658).trans rfl
set_option maxRecDepth 100000 in
theorem r_286_2659 : xT.1 286 2659 = some (.iload 7, ((0, 0), ([], []))) := (kT_286 2659).trans rfl
set_option maxRecDepth 100000 in
theorem r_286_2661 : xT.1 286 2661 = some (.i2l, ((0, 0), ([], []))) := (kT_286 2661).trans rfl
set_option maxRecDepth 100000 in
theorem r_286_2662 : xT.1 286 2662 = some (.lcmp, ((0, 0), ([], []))) := (kT_286 2662).trans rfl
set_option maxRecDepth 100000 in
theorem r_286_2663 : xT.1 286 2663 = some (.ifCond .eq 5, ((2668, 0), ([], []))) := (kT_286 2663).trans rfl
set_option maxRecDepth 100000 in
theorem r_286_2666 : xT.1 286 2666 = some (.iconst 0, ((0, 0), ([.int 0], []))) := (kT_286 2666).trans rfl
set_option maxRecDepth 100000 in
theorem r_286_2667 : xT.1 286 2667 = some (.ireturn, ((0, 0), ([], []))) := (kT_286 2667).trans rfl
set_option maxRecDepth 100000 in
theorem r_286_2668 : xT.1 286 2668 = some (.goto 229, ((2897, 0), ([], []))) := (kT_286 2668).trans rfl
set_option maxRecDepth 100000 in
theorem r_286_2671 : xT.1 286 2671 = some (.aload_n 1, ((0, 0), ([], []))) := (kT_286 2671).trans rfl
set_option maxRecDepth 100000 in
theorem r_286_2672 : xT.1 286 2672 = some (.aload_n 0, ((0, 0), ([], []))) := (kT_286 2672).trans rfl
set_option maxRecDepth 100000 in
theorem r_286_2673 : xT.1 286 2673 = some (.iload 5, ((0, 0), ([], []))) := (kT_286 2673).trans rfl
set_option maxRecDepth 100000 in
theorem r_286_2675 : xT.1 286 2675 = some (.iconst 1, ((0, 0), ([.int 1], []))) := (kT_286 2675).trans rfl
set_option maxRecDepth 100000 in
theorem r_286_2676 : xT.1 286 2676 = some (.iadd, ((0, 0), ([], []))) := (kT_286 2676).trans rfl
set_option maxRecDepth 100000 in
theorem r_286_2677 : xT.1 286 2677 = some (.iaload, ((0, 0), ([], []))) := (kT_286 2677).trans rfl
set_option maxRecDepth 100000 in
theorem r_286_2678 : xT.1 286 2678 = some (.aload_n 3, ((0, 0), ([], []))) := (kT_286 2678).trans rfl
set_option maxRecDepth 100000 in
theorem r_286_2679 : xT.1 286 2679 = some (.invokestatic 317, ((282, 3), ([], [3]))) := (kT_286 2679).trans rfl
set_option maxRecDepth 100000 in
theorem r_286_2682 : xT.1 286 2682 = some (.istore 6, ((0, 0), ([], []))) := (kT_286 2682).trans rfl
set_option maxRecDepth 100000 in
theorem r_286_2684 : xT.1 286 2684 = some (.aload_n 2, ((0, 0), ([], []))) := (kT_286 2684).trans rfl
set_option maxRecDepth 100000 in
theorem r_286_2685 : xT.1 286 2685 = some (.aload_n 0, ((0, 0), ([], []))) := (kT_286 2685).trans rfl
set_option maxRecDepth 100000 in
theorem r_286_2686 : xT.1 286 2686 = some (.iload 5, ((0, 0), ([], []))) := (kT_286 2686).trans rfl
set_option maxRecDepth 100000 in
theorem r_286_2688 : xT.1 286 2688 = some (.iconst 1, ((0, 0), ([.int 1], []))) := (kT_286 2688).trans rfl
set_option maxRecDepth 100000 in
theorem r_286_2689 : xT.1 286 2689 = some (.iadd, ((0, 0), ([], []))) := (kT_286 2689).trans rfl
set_option maxRecDepth 100000 in
theorem r_286_2690 : xT.1 286 2690 = some (.iaload, ((0, 0), ([], []))) := (kT_286 2690).trans rfl
set_option maxRecDepth 100000 in
theorem r_286_2691 : xT.1 286 2691 = some (.invokevirtual 319, ((237, 2), ([], [0]))) := (kT_286 2691).trans rfl
set_option maxRecDepth 100000 in
theorem r_286_2694 : xT.1 286 2694 = some (.istore 7, ((0, 0), ([], []))) := (kT_286 2694).trans rfl
set_option maxRecDepth 100000 in
theorem r_286_2696 : xT.1 286 2696 = some (.aload_n 2, ((0, 0), ([], []))) := (kT_286 2696).trans rfl
set_option maxRecDepth 100000 in
theorem r_286_2697 : xT.1 286 2697 = some (.invokevirtual 170, ((149, 1), ([], [0]))) := (kT_286 2697).trans rfl
set_option maxRecDepth 100000 in
theorem r_286_2700 : xT.1 286 2700 = some (.iload 6, ((0, 0), ([], []))) := (kT_286 2700).trans rfl
set_option maxRecDepth 100000 in
theorem r_286_2702 : xT.1 286 2702 = some (.if_icmp .eq 5, ((2707, 0), ([], []))) := (kT_286 2702).trans rfl
set_option maxRecDepth 100000 in
theorem r_286_2705 : xT.1 286 2705 = some (.iconst 0, ((0, 0), ([.int 0], []))) := (kT_286 2705).trans rfl
set_option maxRecDepth 100000 in
theorem r_286_2706 : xT.1 286 2706 = some (.ireturn, ((0, 0), ([], []))) := (kT_286 2706).trans rfl
set_option maxRecDepth 100000 in
theorem r_286_2707 : xT.1 286 2707 = some (.iload 6, ((0, 0), ([], []))) := (kT_286 2707).trans rfl
set_option maxRecDepth 100000 in
theorem r_286_2709 : xT.1 286 2709 = some (.ifCond .ne 15, ((2724, 0), ([], []))) := (kT_286 2709).trans rfl
set_option maxRecDepth 100000 in
theorem r_286_2712 : xT.1 286 2712 = some (.aload_n 3, ((0, 0), ([], []))) := (kT_286 2712).trans rfl
set_option maxRecDepth 100000 in
theorem r_286_2713 : xT.1 286 2713 = some (.iconst 0, ((0, 0), ([.int 0], []))) := (kT_286 2713).trans rfl
set_option maxRecDepth 100000 in
theorem r_286_2714 : xT.1 286 2714 = some (.laload, ((0, 0), ([], []))) := (kT_286 2714).trans rfl
set_option maxRecDepth 100000 in
theorem r_286_2715 : xT.1 286 2715 = some (.iload 7, ((0, 0), ([], []))) := (kT_286 2715).trans rfl
set_option maxRecDepth 100000 in
theorem r_286_2717 : xT.1 286 2717 = some (.i2l, ((0, 0), ([], []))) := (kT_286 2717).trans rfl
set_option maxRecDepth 100000 in
theorem r_286_2718 : xT.1 286 2718 = some (.lcmp, ((0, 0), ([], []))) := (kT_286 2718).trans rfl
set_option maxRecDepth 100000 in
theorem r_286_2719 : xT.1 286 2719 = some (.ifCond .eq 5, ((2724, 0), ([], []))) := (kT_286 2719).trans rfl
set_option maxRecDepth 100000 in
theorem r_286_2722 : xT.1 286 2722 = some (.iconst 0, ((0, 0), ([.int 0], []))) := (kT_286 2722).trans rfl
set_option maxRecDepth 100000 in
theorem r_286_2723 : xT.1 286 2723 = some (.ireturn, ((0, 0), ([], []))) := (kT_286 2723).trans rfl
set_option maxRecDepth 100000 in
theorem r_286_2724 : xT.1 286 2724 = some (.goto 173, ((2897, 0), ([], []))) := (kT_286 2724).trans rfl
set_option maxRecDepth 100000 in
theorem r_286_2727 : xT.1 286 2727 = some (.aload_n 1, ((0, 0), ([], []))) := (kT_286 2727).trans rfl
set_option maxRecDepth 100000 in
theorem r_286_2728 : xT.1 286 2728 = some (.aload_n 0, ((0, 0), ([], []))) := (kT_286 2728).trans rfl
set_option maxRecDepth 100000 in
theorem r_286_2729 : xT.1 286 2729 = some (.iload 5, ((0, 0), ([], []))) := (kT_286 2729).trans rfl
set_option maxRecDepth 100000 in
theorem r_286_2731 : xT.1 286 2731 = some (.iconst 1, ((0, 0), ([.int 1], []))) := (kT_286 2731).trans rfl
set_option maxRecDepth 100000 in
theorem r_286_2732 : xT.1 286 2732 = some (.iadd, ((0, 0), ([], []))) := (kT_286 2732).trans rfl
set_option maxRecDepth 100000 in
theorem r_286_2733 : xT.1 286 2733 = some (.iaload, ((0, 0), ([], []))) := (kT_286 2733).trans rfl
set_option maxRecDepth 100000 in
theorem r_286_2734 : xT.1 286 2734 = some (.aload_n 3, ((0, 0), ([], []))) := (kT_286 2734).trans rfl
set_option maxRecDepth 100000 in
theorem r_286_2735 : xT.1 286 2735 = some (.invokestatic 320, ((283, 3), ([], [3]))) := (kT_286 2735).trans rfl
set_option maxRecDepth 100000 in
theorem r_286_2738 : xT.1 286 2738 = some (.istore 6, ((0, 0), ([], []))) := (kT_286 2738).trans rfl
set_option maxRecDepth 100000 in
theorem r_286_2740 : xT.1 286 2740 = some (.aload_n 2, ((0, 0), ([], []))) := (kT_286 2740).trans rfl
set_option maxRecDepth 100000 in
theorem r_286_2741 : xT.1 286 2741 = some (.aload_n 0, ((0, 0), ([], []))) := (kT_286 2741).trans rfl
set_option maxRecDepth 100000 in
theorem r_286_2742 : xT.1 286 2742 = some (.iload 5, ((0, 0), ([], []))) := (kT_286 2742).trans rfl
set_option maxRecDepth 100000 in
theorem r_286_2744 : xT.1 286 2744 = some (.iconst 1, ((0, 0), ([.int 1], []))) := (kT_286 2744).trans rfl
set_option maxRecDepth 100000 in
theorem r_286_2745 : xT.1 286 2745 = some (.iadd, ((0, 0), ([], []))) := (kT_286 2745).trans rfl
set_option maxRecDepth 100000 in
theorem r_286_2746 : xT.1 286 2746 = some (.iaload, ((0, 0), ([], []))) := (kT_286 2746).trans rfl
set_option maxRecDepth 100000 in
theorem r_286_2747 : xT.1 286 2747 = some (.invokevirtual 322, ((238, 2), ([], [0]))) := (kT_286 2747).trans rfl
set_option maxRecDepth 100000 in
theorem r_286_2750 : xT.1 286 2750 = some (.istore 7, ((0, 0), ([], []))) := (kT_286 2750).trans rfl
set_option maxRecDepth 100000 in
theorem r_286_2752 : xT.1 286 2752 = some (.aload_n 2, ((0, 0), ([], []))) := (kT_286 2752).trans rfl
set_option maxRecDepth 100000 in
theorem r_286_2753 : xT.1 286 2753 = some (.invokevirtual 170, ((149, 1), ([], [0]))) := (kT_286 2753).trans rfl
set_option maxRecDepth 100000 in
theorem r_286_2756 : xT.1 286 2756 = some (.iload 6, ((0, 0), ([], []))) := (kT_286 2756).trans rfl
set_option maxRecDepth 100000 in
theorem r_286_2758 : xT.1 286 2758 = some (.if_icmp .eq 5, ((2763, 0), ([], []))) := (kT_286 2758).trans rfl
set_option maxRecDepth 100000 in
theorem r_286_2761 : xT.1 286 2761 = some (.iconst 0, ((0, 0), ([.int 0], []))) := (kT_286 2761).trans rfl
set_option maxRecDepth 100000 in
theorem r_286_2762 : xT.1 286 2762 = some (.ireturn, ((0, 0), ([], []))) := (kT_286 2762).trans rfl
set_option maxRecDepth 100000 in
theorem r_286_2763 : xT.1 286 2763 = some (.iload 6, ((0, 0), ([], []))) := (kT_286 2763).trans rfl
set_option maxRecDepth 100000 in
theorem r_286_2765 : xT.1 286 2765 = some (.ifCond .ne 15, ((2780, 0), ([], []))) := (kT_286 2765).trans rfl
set_option maxRecDepth 100000 in
theorem r_286_2768 : xT.1 286 2768 = some (.aload_n 3, ((0, 0), ([], []))) := (kT_286 2768).trans rfl
set_option maxRecDepth 100000 in
theorem r_286_2769 : xT.1 286 2769 = some (.iconst 0, ((0, 0), ([.int 0], []))) := (kT_286 2769).trans rfl
set_option maxRecDepth 100000 in
theorem r_286_2770 : xT.1 286 2770 = some (.laload, ((0, 0), ([], []))) := (kT_286 2770).trans rfl
set_option maxRecDepth 100000 in
theorem r_286_2771 : xT.1 286 2771 = some (.iload 7, ((0, 0), ([], []))) := (kT_286 2771).trans rfl
set_option maxRecDepth 100000 in
theorem r_286_2773 : xT.1 286 2773 = some (.i2l, ((0, 0), ([], []))) := (kT_286 2773).trans rfl
set_option maxRecDepth 100000 in
theorem r_286_2774 : xT.1 286 2774 = some (.lcmp, ((0, 0), ([], []))) := (kT_286 2774).trans rfl
set_option maxRecDepth 100000 in
theorem r_286_2775 : xT.1 286 2775 = some (.ifCond .eq 5, ((2780, 0), ([], []))) := (kT_286 2775).trans rfl
set_option maxRecDepth 100000 in
theorem r_286_2778 : xT.1 286 2778 = some (.iconst 0, ((0, 0), ([.int 0], []))) := (kT_286 2778).trans rfl
set_option maxRecDepth 100000 in
theorem r_286_2779 : xT.1 286 2779 = some (.ireturn, ((0, 0), ([], []))) := (kT_286 2779).trans rfl
set_option maxRecDepth 100000 in
theorem r_286_2780 : xT.1 286 2780 = some (.goto 117, ((2897, 0), ([], []))) := (kT_286 2780).trans rfl
set_option maxRecDepth 100000 in
theorem r_286_2783 : xT.1 286 2783 = some (.aload_n 1, ((0, 0), ([], []))) := (kT_286 2783).trans rfl
set_option maxRecDepth 100000 in
theorem r_286_2784 : xT.1 286 2784 = some (.invokevirtual 323, ((131, 1), ([], [0]))) := (kT_286 2784).trans rfl
set_option maxRecDepth 100000 in
theorem r_286_2787 : xT.1 286 2787 = some (.aload_n 2, ((0, 0), ([], []))) := (kT_286 2787).trans rfl
set_option maxRecDepth 100000 in
theorem r_286_2788 : xT.1 286 2788 = some (.invokevirtual 326, ((239, 1), ([], [0]))) := (kT_286 2788).trans rfl
set_option maxRecDepth 100000 in
theorem r_286_2791 : xT.1 286 2791 = some (.if_icmp .eq 106, ((2897, 0), ([], []))) := (kT_286 2791).trans rfl
set_option maxRecDepth 100000 in
theorem r_286_2794 : xT.1 286 2794 = some (.iconst 0, ((0, 0), ([.int 0], []))) := (kT_286 2794).trans rfl
set_option maxRecDepth 100000 in
theorem r_286_2795 : xT.1 286 2795 = some (.ireturn, ((0, 0), ([], []))) := (kT_286 2795).trans rfl
set_option maxRecDepth 100000 in
theorem r_286_2796 : xT.1 286 2796 = some (.aload_n 1, ((0, 0), ([], []))) := (kT_286 2796).trans rfl
set_option maxRecDepth 100000 in
theorem r_286_2797 : xT.1 286 2797 = some (.aload_n 3, ((0, 0), ([], []))) := (kT_286 2797).trans rfl
set_option maxRecDepth 100000 in
theorem r_286_2798 : xT.1 286 2798 = some (.invokestatic 327, ((284, 2), ([], [3]))) := (kT_286 2798).trans rfl
set_option maxRecDepth 100000 in
theorem r_286_2801 : xT.1 286 2801 = some (.istore 6, ((0, 0), ([], []))) := (kT_286 2801).trans rfl
set_option maxRecDepth 100000 in
theorem r_286_2803 : xT.1 286 2803 = some (.aload_n 2, ((0, 0), ([], []))) := (kT_286 2803).trans rfl
set_option maxRecDepth 100000 in
theorem r_286_2804 : xT.1 286 2804 = some (.invokevirtual 329, ((240, 1), ([], [0]))) := (kT_286 2804).trans rfl
set_option maxRecDepth 100000 in
theorem r_286_2807 : xT.1 286 2807 = some (.istore 7, ((0, 0), ([], []))) := (kT_286 2807).trans rfl
set_option maxRecDepth 100000 in
theorem r_286_2809 : xT.1 286 2809 = some (.aload_n 2, ((0, 0), ([], []))) := (kT_286 2809).trans rfl
set_option maxRecDepth 100000 in
theorem r_286_2810 : xT.1 286 2810 = some (.invokevirtual 170, ((149, 1), ([], [0]))) := (kT_286 2810).trans rfl
set_option maxRecDepth 100000 in
theorem r_286_2813 : xT.1 286 2813 = some (.iload 6, ((0, 0), ([], []))) := (kT_286 2813).trans rfl
set_option maxRecDepth 100000 in
theorem r_286_2815 : xT.1 286 2815 = some (.if_icmp .eq 5, ((2820, 0), ([], []))) := (kT_286 2815).trans rfl
set_option maxRecDepth 100000 in
theorem r_286_2818 : xT.1 286 2818 = some (.iconst 0, ((0, 0), ([.int 0], []))) := (kT_286 2818).trans rfl
set_option maxRecDepth 100000 in
theorem r_286_2819 : xT.1 286 2819 = some (.ireturn, ((0, 0), ([], []))) := (kT_286 2819).trans rfl
set_option maxRecDepth 100000 in
theorem r_286_2820 : xT.1 286 2820 = some (.iload 6, ((0, 0), ([], []))) := (kT_286 2820).trans rfl
set_option maxRecDepth 100000 in
theorem r_286_2822 : xT.1 286 2822 = some (.ifCond .ne 15, ((2837, 0), ([], []))) := (kT_286 2822).trans rfl
set_option maxRecDepth 100000 in
theorem r_286_2825 : xT.1 286 2825 = some (.aload_n 3, ((0, 0), ([], []))) := (kT_286 2825).trans rfl
set_option maxRecDepth 100000 in
theorem r_286_2826 : xT.1 286 2826 = some (.iconst 0, ((0, 0), ([.int 0], []))) := (kT_286 2826).trans rfl
set_option maxRecDepth 100000 in
theorem r_286_2827 : xT.1 286 2827 = some (.laload, ((0, 0), ([], []))) := (kT_286 2827).trans rfl
set_option maxRecDepth 100000 in
theorem r_286_2828 : xT.1 286 2828 = some (.iload 7, ((0, 0), ([], []))) := (kT_286 2828).trans rfl
set_option maxRecDepth 100000 in
theorem r_286_2830 : xT.1 286 2830 = some (.i2l, ((0, 0), ([], []))) := (kT_286 2830).trans rfl
set_option maxRecDepth 100000 in
theorem r_286_2831 : xT.1 286 2831 = some (.lcmp, ((0, 0), ([], []))) := (kT_286 2831).trans rfl
set_option maxRecDepth 100000 in
theorem r_286_2832 : xT.1 286 2832 = some (.ifCond .eq 5, ((2837, 0), ([], []))) := (kT_286 2832).trans rfl
set_option maxRecDepth 100000 in
theorem r_286_2835 : xT.1 286 2835 = some (.iconst 0, ((0, 0), ([.int 0], []))) := (kT_286 2835).trans rfl
set_option maxRecDepth 100000 in
theorem r_286_2836 : xT.1 286 2836 = some (.ireturn, ((0, 0), ([], []))) := (kT_286 2836).trans rfl
set_option maxRecDepth 100000 in
theorem r_286_2837 : xT.1 286 2837 = some (.goto 60, ((2897, 0), ([], []))) := (kT_286 2837).trans rfl
set_option maxRecDepth 100000 in
theorem r_286_2840 : xT.1 286 2840 = some (.aload_n 1, ((0, 0), ([], []))) := (kT_286 2840).trans rfl
set_option maxRecDepth 100000 in
theorem r_286_2841 : xT.1 286 2841 = some (.invokevirtual 330, ((133, 1), ([], [0]))) := (kT_286 2841).trans rfl
set_option maxRecDepth 100000 in
theorem r_286_2844 : xT.1 286 2844 = some (.aload_n 2, ((0, 0), ([], []))) := (kT_286 2844).trans rfl
set_option maxRecDepth 100000 in
theorem r_286_2845 : xT.1 286 2845 = some (.invokevirtual 333, ((241, 1), ([], [0]))) := (kT_286 2845).trans rfl
set_option maxRecDepth 100000 in
theorem r_286_2848 : xT.1 286 2848 = some (.if_icmp .eq 49, ((2897, 0), ([], []))) := (kT_286 2848).trans rfl
set_option maxRecDepth 100000 in
theorem r_286_2851 : xT.1 286 2851 = some (.iconst 0, ((0, 0), ([.int 0], []))) := (kT_286 2851).trans rfl
set_option maxRecDepth 100000 in
theorem r_286_2852 : xT.1 286 2852 = some (.ireturn, ((0, 0), ([], []))) := (kT_286 2852).trans rfl
set_option maxRecDepth 100000 in
theorem r_286_2853 : xT.1 286 2853 = some (.aload_n 1, ((0, 0), ([], []))) := (kT_286 2853).trans rfl
set_option maxRecDepth 100000 in
theorem r_286_2854 : xT.1 286 2854 = some (.aload_n 3, ((0, 0), ([], []))) := (kT_286 2854).trans rfl
set_option maxRecDepth 100000 in
theorem r_286_2855 : xT.1 286 2855 = some (.invokestatic 334, ((285, 2), ([], [3]))) := (kT_286 2855).trans rfl
set_option maxRecDepth 100000 in
theorem r_286_2858 : xT.1 286 2858 = some (.istore 6, ((0, 0), ([], []))) := (kT_286 2858).trans rfl
set_option maxRecDepth 100000 in
theorem r_286_2860 : xT.1 286 2860 = some (.aload_n 2, ((0, 0), ([], []))) := (kT_286 2860).trans rfl
set_option maxRecDepth 100000 in
theorem r_286_2861 : xT.1 286 2861 = some (.invokevirtual 336, ((242, 1), ([], [0]))) := (kT_286 2861).trans rfl
set_option maxRecDepth 100000 in
theorem r_286_2864 : xT.1 286 2864 = some (.istore 7, ((0, 0), ([], []))) := (kT_286 2864).trans rfl
set_option maxRecDepth 100000 in
theorem r_286_2866 : xT.1 286 2866 = some (.aload_n 2, ((0, 0), ([], []))) := (kT_286 2866).trans rfl
set_option maxRecDepth 100000 in
theorem r_286_2867 : xT.1 286 2867 = some (.invokevirtual 170, ((149, 1), ([], [0]))) := (kT_286 2867).trans rfl
set_option maxRecDepth 100000 in
theorem r_286_2870 : xT.1 286 2870 = some (.iload 6, ((0, 0), ([], []))) := (kT_286 2870).trans rfl
set_option maxRecDepth 100000 in
theorem r_286_2872 : xT.1 286 2872 = some (.if_icmp .eq 5, ((2877, 0), ([], []))) := (kT_286 2872).trans rfl
set_option maxRecDepth 100000 in
theorem r_286_2875 : xT.1 286 2875 = some (.iconst 0, ((0, 0), ([.int 0], []))) := (kT_286 2875).trans rfl
set_option maxRecDepth 100000 in
theorem r_286_2876 : xT.1 286 2876 = some (.ireturn, ((0, 0), ([], []))) := (kT_286 2876).trans rfl
set_option maxRecDepth 100000 in
theorem r_286_2877 : xT.1 286 2877 = some (.iload 6, ((0, 0), ([], []))) := (kT_286 2877).trans rfl
set_option maxRecDepth 100000 in
theorem r_286_2879 : xT.1 286 2879 = some (.ifCond .ne 15, ((2894, 0), ([], []))) := (kT_286 2879).trans rfl
set_option maxRecDepth 100000 in
theorem r_286_2882 : xT.1 286 2882 = some (.aload_n 3, ((0, 0), ([], []))) := (kT_286 2882).trans rfl
set_option maxRecDepth 100000 in
theorem r_286_2883 : xT.1 286 2883 = some (.iconst 0, ((0, 0), ([.int 0], []))) := (kT_286 2883).trans rfl
set_option maxRecDepth 100000 in
theorem r_286_2884 : xT.1 286 2884 = some (.laload, ((0, 0), ([], []))) := (kT_286 2884).trans rfl
set_option maxRecDepth 100000 in
theorem r_286_2885 : xT.1 286 2885 = some (.iload 7, ((0, 0), ([], []))) := (kT_286 2885).trans rfl
set_option maxRecDepth 100000 in
theorem r_286_2887 : xT.1 286 2887 = some (.i2l, ((0, 0), ([], []))) := (kT_286 2887).trans rfl
set_option maxRecDepth 100000 in
theorem r_286_2888 : xT.1 286 2888 = some (.lcmp, ((0, 0), ([], []))) := (kT_286 2888).trans rfl
set_option maxRecDepth 100000 in
theorem r_286_2889 : xT.1 286 2889 = some (.ifCond .eq 5, ((2894, 0), ([], []))) := (kT_286 2889).trans rfl
set_option maxRecDepth 100000 in
theorem r_286_2892 : xT.1 286 2892 = some (.iconst 0, ((0, 0), ([.int 0], []))) := (kT_286 2892).trans rfl
set_option maxRecDepth 100000 in
theorem r_286_2893 : xT.1 286 2893 = some (.ireturn, ((0, 0), ([], []))) := (kT_286 2893).trans rfl
set_option maxRecDepth 100000 in
theorem r_286_2894 : xT.1 286 2894 = some (.goto 3, ((2897, 0), ([], []))) := (kT_286 2894).trans rfl
set_option maxRecDepth 100000 in
theorem r_286_2897 : xT.1 286 2897 = some (.iinc 5 7, ((0, 0), ([.int (7)], []))) := (kT_286 2897).trans rfl
set_option maxRecDepth 100000 in
theorem r_286_2900 : xT.1 286 2900 = some (.goto (-2872), ((28, 0), ([], []))) := (kT_286 2900).trans rfl
set_option maxRecDepth 100000 in
theorem r_286_2903 : xT.1 286 2903 = some (.iconst 1, ((0, 0), ([.int 1], []))) := (kT_286 2903).trans rfl
set_option maxRecDepth 100000 in
theorem r_286_2904 : xT.1 286 2904 = some (.ireturn, ((0, 0), ([], []))) := (kT_286 2904).trans rfl
