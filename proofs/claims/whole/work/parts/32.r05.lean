/-! the rows of the tables, one by one -/
theorem kT_270 (pc : Nat) : xT.1 270 pc = xfind k_270 pc := rfl
theorem r_270_0 : xT.1 270 0 = some (.aload_n 2, ((0, 0), ([], []))) := (kT_270 0).trans rfl
theorem r_270_1 : xT.1 270 1 = some (.iconst 0, ((0, 0), ([.int 0], []))) := (kT_270 1).trans rfl
theorem r_270_2 : xT.1 270 2 = some (.aload_n 0, ((0, 0), ([], []))) := (kT_270 2).trans rfl
theorem r_270_3 : xT.1 270 3 = some (.iload_n 1, ((0, 0), ([], []))) := (kT_270 3).trans rfl
theorem r_270_4 : xT.1 270 4 = some (.invokevirtual 106, ((116, 2), ([], [0]))) := (kT_270 4).trans rfl
theorem r_270_7 : xT.1 270 7 = some (.dastore, ((0, 0), ([], []))) := (kT_270 7).trans rfl
theorem r_270_8 : xT.1 270 8 = some (.goto 9, ((17, 0), ([], []))) := (kT_270 8).trans rfl
theorem r_270_11 : xT.1 270 11 = some (.astore_n 3, ((0, 0), ([], []))) := (kT_270 11).trans rfl
theorem r_270_12 : xT.1 270 12 = some (.iconst 1, ((0, 0), ([.int 1], []))) := (kT_270 12).trans rfl
theorem r_270_13 : xT.1 270 13 = some (.ireturn, ((0, 0), ([], []))) := (kT_270 13).trans rfl
theorem r_270_14 : xT.1 270 14 = some (.astore_n 3, ((0, 0), ([], []))) := (kT_270 14).trans rfl
theorem r_270_15 : xT.1 270 15 = some (.iconst 2, ((0, 0), ([.int 2], []))) := (kT_270 15).trans rfl
theorem r_270_16 : xT.1 270 16 = some (.ireturn, ((0, 0), ([], []))) := (kT_270 16).trans rfl
theorem r_270_17 : xT.1 270 17 = some (.iconst 0, ((0, 0), ([.int 0], []))) := (kT_270 17).trans rfl
theorem r_270_18 : xT.1 270 18 = some (.ireturn, ((0, 0), ([], []))) := (kT_270 18).trans rfl
theorem kT_271 (pc : Nat) : xT.1 271 pc = xfind k_271 pc := rfl
theorem r_271_0 : xT.1 271 0 = some (.aload_n 2, ((0, 0), ([], []))) := (kT_271 0).trans rfl
theorem r_271_1 : xT.1 271 1 = some (.iconst 0, ((0, 0), ([.int 0], []))) := (kT_271 1).trans rfl
theorem r_271_2 : xT.1 271 2 = some (.aload_n 0, ((0, 0), ([], []))) := (kT_271 2).trans rfl
theorem r_271_3 : xT.1 271 3 = some (.iload_n 1, ((0, 0), ([], []))) := (kT_271 3).trans rfl
theorem r_271_4 : xT.1 271 4 = some (.invokevirtual 112, ((117, 2), ([], [0]))) := (kT_271 4).trans rfl
theorem r_271_7 : xT.1 271 7 = some (.i2l, ((0, 0), ([], []))) := (kT_271 7).trans rfl
theorem r_271_8 : xT.1 271 8 = some (.lastore, ((0, 0), ([], []))) := (kT_271 8).trans rfl
theorem r_271_9 : xT.1 271 9 = some (.goto 6, ((15, 0), ([], []))) := (kT_271 9).trans rfl
theorem r_271_12 : xT.1 271 12 = some (.astore_n 3, ((0, 0), ([], []))) := (kT_271 12).trans rfl
theorem r_271_13 : xT.1 271 13 = some (.iconst 1, ((0, 0), ([.int 1], []))) := (kT_271 13).trans rfl
theorem r_271_14 : xT.1 271 14 = some (.ireturn, ((0, 0), ([], []))) := (kT_271 14).trans rfl
theorem r_271_15 : xT.1 271 15 = some (.iconst 0, ((0, 0), ([.int 0], []))) := (kT_271 15).trans rfl
theorem r_271_16 : xT.1 271 16 = some (.ireturn, ((0, 0), ([], []))) := (kT_271 16).trans rfl
theorem kT_272 (pc : Nat) : xT.1 272 pc = xfind k_272 pc := rfl
theorem r_272_0 : xT.1 272 0 = some (.aload_n 1, ((0, 0), ([], []))) := (kT_272 0).trans rfl
theorem r_272_1 : xT.1 272 1 = some (.iconst 0, ((0, 0), ([.int 0], []))) := (kT_272 1).trans rfl
theorem r_272_2 : xT.1 272 2 = some (.aload_n 0, ((0, 0), ([], []))) := (kT_272 2).trans rfl
theorem r_272_3 : xT.1 272 3 = some (.invokevirtual 115, ((118, 1), ([], [0]))) := (kT_272 3).trans rfl
theorem r_272_6 : xT.1 272 6 = some (.i2l, ((0, 0), ([], []))) := (kT_272 6).trans rfl
theorem r_272_7 : xT.1 272 7 = some (.lastore, ((0, 0), ([], []))) := (kT_272 7).trans rfl
theorem r_272_8 : xT.1 272 8 = some (.goto 6, ((14, 0), ([], []))) := (kT_272 8).trans rfl
theorem r_272_11 : xT.1 272 11 = some (.astore_n 2, ((0, 0), ([], []))) := (kT_272 11).trans rfl
theorem r_272_12 : xT.1 272 12 = some (.iconst 1, ((0, 0), ([.int 1], []))) := (kT_272 12).trans rfl
theorem r_272_13 : xT.1 272 13 = some (.ireturn, ((0, 0), ([], []))) := (kT_272 13).trans rfl
theorem r_272_14 : xT.1 272 14 = some (.iconst 0, ((0, 0), ([.int 0], []))) := (kT_272 14).trans rfl
theorem r_272_15 : xT.1 272 15 = some (.ireturn, ((0, 0), ([], []))) := (kT_272 15).trans rfl
theorem kT_273 (pc : Nat) : xT.1 273 pc = xfind k_273 pc := rfl
theorem r_273_0 : xT.1 273 0 = some (.aload_n 2, ((0, 0), ([], []))) := (kT_273 0).trans rfl
theorem r_273_1 : xT.1 273 1 = some (.iconst 0, ((0, 0), ([.int 0], []))) := (kT_273 1).trans rfl
theorem r_273_2 : xT.1 273 2 = some (.aload_n 0, ((0, 0), ([], []))) := (kT_273 2).trans rfl
theorem r_273_3 : xT.1 273 3 = some (.iload_n 1, ((0, 0), ([], []))) := (kT_273 3).trans rfl
theorem r_273_4 : xT.1 273 4 = some (.invokevirtual 118, ((119, 2), ([], [0]))) := (kT_273 4).trans rfl
theorem r_273_7 : xT.1 273 7 = some (.i2l, ((0, 0), ([], []))) := (kT_273 7).trans rfl
theorem r_273_8 : xT.1 273 8 = some (.lastore, ((0, 0), ([], []))) := (kT_273 8).trans rfl
theorem r_273_9 : xT.1 273 9 = some (.goto 6, ((15, 0), ([], []))) := (kT_273 9).trans rfl
theorem r_273_12 : xT.1 273 12 = some (.astore_n 3, ((0, 0), ([], []))) := (kT_273 12).trans rfl
theorem r_273_13 : xT.1 273 13 = some (.iconst 1, ((0, 0), ([.int 1], []))) := (kT_273 13).trans rfl
theorem r_273_14 : xT.1 273 14 = some (.ireturn, ((0, 0), ([], []))) := (kT_273 14).trans rfl
theorem r_273_15 : xT.1 273 15 = some (.iconst 0, ((0, 0), ([.int 0], []))) := (kT_273 15).trans rfl
theorem r_273_16 : xT.1 273 16 = some (.ireturn, ((0, 0), ([], []))) := (kT_273 16).trans rfl
theorem kT_274 (pc : Nat) : xT.1 274 pc = xfind k_274 pc := rfl
theorem r_274_0 : xT.1 274 0 = some (.aload_n 2, ((0, 0), ([], []))) := (kT_274 0).trans rfl
theorem r_274_1 : xT.1 274 1 = some (.iconst 0, ((0, 0), ([.int 0], []))) := (kT_274 1).trans rfl
theorem r_274_2 : xT.1 274 2 = some (.aload_n 0, ((0, 0), ([], []))) := (kT_274 2).trans rfl
theorem r_274_3 : xT.1 274 3 = some (.iload_n 1, ((0, 0), ([], []))) := (kT_274 3).trans rfl
theorem r_274_4 : xT.1 274 4 = some (.invokevirtual 121, ((120, 2), ([], [0]))) := (kT_274 4).trans rfl
theorem r_274_7 : xT.1 274 7 = some (.i2l, ((0, 0), ([], []))) := (kT_274 7).trans rfl
theorem r_274_8 : xT.1 274 8 = some (.lastore, ((0, 0), ([], []))) := (kT_274 8).trans rfl
theorem r_274_9 : xT.1 274 9 = some (.goto 6, ((15, 0), ([], []))) := (kT_274 9).trans rfl
theorem r_274_12 : xT.1 274 12 = some (.astore_n 3, ((0, 0), ([], []))) := (kT_274 12).trans rfl
theorem r_274_13 : xT.1 274 13 = some (.iconst 1, ((0, 0), ([.int 1], []))) := (kT_274 13).trans rfl
theorem r_274_14 : xT.1 274 14 = some (.ireturn, ((0, 0), ([], []))) := (kT_274 14).trans rfl
theorem r_274_15 : xT.1 274 15 = some (.iconst 0, ((0, 0), ([.int 0], []))) := (kT_274 15).trans rfl
theorem r_274_16 : xT.1 274 16 = some (.ireturn, ((0, 0), ([], []))) := (kT_274 16).trans rfl
theorem kT_275 (pc : Nat) : xT.1 275 pc = xfind k_275 pc := rfl
theorem r_275_0 : xT.1 275 0 = some (.aload_n 2, ((0, 0), ([], []))) := (kT_275 0).trans rfl
theorem r_275_1 : xT.1 275 1 = some (.iconst 0, ((0, 0), ([.int 0], []))) := (kT_275 1).trans rfl
theorem r_275_2 : xT.1 275 2 = some (.aload_n 0, ((0, 0), ([], []))) := (kT_275 2).trans rfl
theorem r_275_3 : xT.1 275 3 = some (.iload_n 1, ((0, 0), ([], []))) := (kT_275 3).trans rfl
theorem r_275_4 : xT.1 275 4 = some (.invokevirtual 124, ((121, 2), ([], [0]))) := (kT_275 4).trans rfl
theorem r_275_7 : xT.1 275 7 = some (.i2l, ((0, 0), ([], []))) := (kT_275 7).trans rfl
theorem r_275_8 : xT.1 275 8 = some (.lastore, ((0, 0), ([], []))) := (kT_275 8).trans rfl
theorem r_275_9 : xT.1 275 9 = some (.goto 6, ((15, 0), ([], []))) := (kT_275 9).trans rfl
theorem r_275_12 : xT.1 275 12 = some (.astore_n 3, ((0, 0), ([], []))) := (kT_275 12).trans rfl
theorem r_275_13 : xT.1 275 13 = some (.iconst 1, ((0, 0), ([.int 1], []))) := (kT_275 13).trans rfl
theorem r_275_14 : xT.1 275 14 = some (.ireturn, ((0, 0), ([], []))) := (kT_275 14).trans rfl
theorem r_275_15 : xT.1 275 15 = some (.iconst 0, ((0, 0), ([.int 0], []))) := (kT_275 15).trans rfl
theorem r_275_16 : xT.1 275 16 = some (.ireturn, ((0, 0), ([], []))) := (kT_275 16).trans rfl
theorem kT_276 (pc : Nat) : xT.1 276 pc = xfind k_276 pc := rfl
theorem r_276_0 : xT.1 276 0 = some (.aload_n 2, ((0, 0), ([], []))) := (kT_276 0).trans rfl
theorem r_276_1 : xT.1 276 1 = some (.iconst 0, ((0, 0), ([.int 0], []))) := (kT_276 1).trans rfl
theorem r_276_2 : xT.1 276 2 = some (.aload_n 0, ((0, 0), ([], []))) := (kT_276 2).trans rfl
theorem r_276_3 : xT.1 276 3 = some (.iload_n 1, ((0, 0), ([], []))) := (kT_276 3).trans rfl
theorem r_276_4 : xT.1 276 4 = some (.invokevirtual 127, ((122, 2), ([], [0]))) := (kT_276 4).trans rfl
theorem r_276_7 : xT.1 276 7 = some (.i2l, ((0, 0), ([], []))) := (kT_276 7).trans rfl
theorem r_276_8 : xT.1 276 8 = some (.lastore, ((0, 0), ([], []))) := (kT_276 8).trans rfl
theorem r_276_9 : xT.1 276 9 = some (.goto 6, ((15, 0), ([], []))) := (kT_276 9).trans rfl
theorem r_276_12 : xT.1 276 12 = some (.astore_n 3, ((0, 0), ([], []))) := (kT_276 12).trans rfl
theorem r_276_13 : xT.1 276 13 = some (.iconst 1, ((0, 0), ([.int 1], []))) := (kT_276 13).trans rfl
theorem r_276_14 : xT.1 276 14 = some (.ireturn, ((0, 0), ([], []))) := (kT_276 14).trans rfl
theorem r_276_15 : xT.1 276 15 = some (.iconst 0, ((0, 0), ([.int 0], []))) := (kT_276 15).trans rfl
theorem r_276_16 : xT.1 276 16 = some (.ireturn, ((0, 0), ([], []))) := (kT_276 16).trans rfl
theorem kT_277 (pc : Nat) : xT.1 277 pc = xfind k_277 pc := rfl
theorem r_277_0 : xT.1 277 0 = some (.aload_n 2, ((0, 0), ([], []))) := (kT_277 0).trans rfl
theorem r_277_1 : xT.1 277 1 = some (.iconst 0, ((0, 0), ([.int 0], []))) := (kT_277 1).trans rfl
theorem r_277_2 : xT.1 277 2 = some (.aload_n 0, ((0, 0), ([], []))) := (kT_277 2).trans rfl
theorem r_277_3 : xT.1 277 3 = some (.iload_n 1, ((0, 0), ([], []))) := (kT_277 3).trans rfl
theorem r_277_4 : xT.1 277 4 = some (.invokevirtual 130, ((123, 2), ([], [0]))) := (kT_277 4).trans rfl
theorem r_277_7 : xT.1 277 7 = some (.f2d, ((0, 0), ([], []))) := (kT_277 7).trans rfl
theorem r_277_8 : xT.1 277 8 = some (.dastore, ((0, 0), ([], []))) := (kT_277 8).trans rfl
theorem r_277_9 : xT.1 277 9 = some (.goto 9, ((18, 0), ([], []))) := (kT_277 9).trans rfl
theorem r_277_12 : xT.1 277 12 = some (.astore_n 3, ((0, 0), ([], []))) := (kT_277 12).trans rfl
theorem r_277_13 : xT.1 277 13 = some (.iconst 1, ((0, 0), ([.int 1], []))) := (kT_277 13).trans rfl
theorem r_277_14 : xT.1 277 14 = some (.ireturn, ((0, 0), ([], []))) := (kT_277 14).trans rfl
theorem r_277_15 : xT.1 277 15 = some (.astore_n 3, ((0, 0), ([], []))) := (kT_277 15).trans rfl
theorem r_277_16 : xT.1 277 16 = some (.iconst 2, ((0, 0), ([.int 2], []))) := (kT_277 16).trans rfl
theorem r_277_17 : xT.1 277 17 = some (.ireturn, ((0, 0), ([], []))) := (kT_277 17).trans rfl
theorem r_277_18 : xT.1 277 18 = some (.iconst 0, ((0, 0), ([.int 0], []))) := (kT_277 18).trans rfl
theorem r_277_19 : xT.1 277 19 = some (.ireturn, ((0, 0), ([], []))) := (kT_277 19).trans rfl
theorem kT_278 (pc : Nat) : xT.1 278 pc = xfind k_278 pc := rfl
theorem r_278_0 : xT.1 278 0 = some (.aload_n 2, ((0, 0), ([], []))) := (kT_278 0).trans rfl
theorem r_278_1 : xT.1 278 1 = some (.iconst 0, ((0, 0), ([.int 0], []))) := (kT_278 1).trans rfl
theorem r_278_2 : xT.1 278 2 = some (.aload_n 0, ((0, 0), ([], []))) := (kT_278 2).trans rfl
theorem r_278_3 : xT.1 278 3 = some (.iload_n 1, ((0, 0), ([], []))) := (kT_278 3).trans rfl
theorem r_278_4 : xT.1 278 4 = some (.invokevirtual 134, ((125, 2), ([], [0]))) := (kT_278 4).trans rfl
theorem r_278_7 : xT.1 278 7 = some (.i2l, ((0, 0), ([], []))) := (kT_278 7).trans rfl
theorem r_278_8 : xT.1 278 8 = some (.lastore, ((0, 0), ([], []))) := (kT_278 8).trans rfl
theorem r_278_9 : xT.1 278 9 = some (.goto 6, ((15, 0), ([], []))) := (kT_278 9).trans rfl
theorem r_278_12 : xT.1 278 12 = some (.astore_n 3, ((0, 0), ([], []))) := (kT_278 12).trans rfl
theorem r_278_13 : xT.1 278 13 = some (.iconst 1, ((0, 0), ([.int 1], []))) := (kT_278 13).trans rfl
theorem r_278_14 : xT.1 278 14 = some (.ireturn, ((0, 0), ([], []))) := (kT_278 14).trans rfl
theorem r_278_15 : xT.1 278 15 = some (.iconst 0, ((0, 0), ([.int 0], []))) := (kT_278 15).trans rfl
theorem r_278_16 : xT.1 278 16 = some (.ireturn, ((0, 0), ([], []))) := (kT_278 16).trans rfl
theorem kT_279 (pc : Nat) : xT.1 279 pc = xfind k_279 pc := rfl
theorem r_279_0 : xT.1 279 0 = some (.aload_n 1, ((0, 0), ([], []))) := (kT_279 0).trans rfl
theorem r_279_1 : xT.1 279 1 = some (.iconst 0, ((0, 0), ([.int 0], []))) := (kT_279 1).trans rfl
theorem r_279_2 : xT.1 279 2 = some (.aload_n 0, ((0, 0), ([], []))) := (kT_279 2).trans rfl
theorem r_279_3 : xT.1 279 3 = some (.invokevirtual 138, ((126, 1), ([], [0]))) := (kT_279 3).trans rfl
theorem r_279_6 : xT.1 279 6 = some (.i2l, ((0, 0), ([], []))) := (kT_279 6).trans rfl
theorem r_279_7 : xT.1 279 7 = some (.lastore, ((0, 0), ([], []))) := (kT_279 7).trans rfl
theorem r_279_8 : xT.1 279 8 = some (.goto 9, ((17, 0), ([], []))) := (kT_279 8).trans rfl
theorem r_279_11 : xT.1 279 11 = some (.astore_n 2, ((0, 0), ([], []))) := (kT_279 11).trans rfl
theorem r_279_12 : xT.1 279 12 = some (.iconst 1, ((0, 0), ([.int 1], []))) := (kT_279 12).trans rfl
theorem r_279_13 : xT.1 279 13 = some (.ireturn, ((0, 0), ([], []))) := (kT_279 13).trans rfl
theorem r_279_14 : xT.1 279 14 = some (.astore_n 2, ((0, 0), ([], []))) := (kT_279 14).trans rfl
theorem r_279_15 : xT.1 279 15 = some (.iconst 2, ((0, 0), ([.int 2], []))) := (kT_279 15).trans rfl
theorem r_279_16 : xT.1 279 16 = some (.ireturn, ((0, 0), ([], []))) := (kT_279 16).trans rfl
theorem r_279_17 : xT.1 279 17 = some (.iconst 0, ((0, 0), ([.int 0], []))) := (kT_279 17).trans rfl
theorem r_279_18 : xT.1 279 18 = some (.ireturn, ((0, 0), ([], []))) := (kT_279 18).trans rfl
theorem kT_280 (pc : Nat) : xT.1 280 pc = xfind k_280 pc := rfl
theorem r_280_0 : xT.1 280 0 = some (.aload_n 1, ((0, 0), ([], []))) := (kT_280 0).trans rfl
theorem r_280_1 : xT.1 280 1 = some (.iconst 0, ((0, 0), ([.int 0], []))) := (kT_280 1).trans rfl
theorem r_280_2 : xT.1 280 2 = some (.aload_n 0, ((0, 0), ([], []))) := (kT_280 2).trans rfl
theorem r_280_3 : xT.1 280 3 = some (.invokevirtual 141, ((127, 1), ([], [0]))) := (kT_280 3).trans rfl
theorem r_280_6 : xT.1 280 6 = some (.i2l, ((0, 0), ([], []))) := (kT_280 6).trans rfl
theorem r_280_7 : xT.1 280 7 = some (.lastore, ((0, 0), ([], []))) := (kT_280 7).trans rfl
theorem r_280_8 : xT.1 280 8 = some (.goto 6, ((14, 0), ([], []))) := (kT_280 8).trans rfl
theorem r_280_11 : xT.1 280 11 = some (.astore_n 2, ((0, 0), ([], []))) := (kT_280 11).trans rfl
theorem r_280_12 : xT.1 280 12 = some (.iconst 1, ((0, 0), ([.int 1], []))) := (kT_280 12).trans rfl
theorem r_280_13 : xT.1 280 13 = some (.ireturn, ((0, 0), ([], []))) := (kT_280 13).trans rfl
theorem r_280_14 : xT.1 280 14 = some (.iconst 0, ((0, 0), ([.int 0], []))) := (kT_280 14).trans rfl
theorem r_280_15 : xT.1 280 15 = some (.ireturn, ((0, 0), ([], []))) := (kT_280 15).trans rfl
theorem kT_281 (pc : Nat) : xT.1 281 pc = xfind k_281 pc := rfl
theorem r_281_0 : xT.1 281 0 = some (.aload_n 1, ((0, 0), ([], []))) := (kT_281 0).trans rfl
theorem r_281_1 : xT.1 281 1 = some (.iconst 0, ((0, 0), ([.int 0], []))) := (kT_281 1).trans rfl
theorem r_281_2 : xT.1 281 2 = some (.aload_n 0, ((0, 0), ([], []))) := (kT_281 2).trans rfl
theorem r_281_3 : xT.1 281 3 = some (.invokevirtual 144, ((128, 1), ([], [0]))) := (kT_281 3).trans rfl
theorem r_281_6 : xT.1 281 6 = some (.i2l, ((0, 0), ([], []))) := (kT_281 6).trans rfl
theorem r_281_7 : xT.1 281 7 = some (.lastore, ((0, 0), ([], []))) := (kT_281 7).trans rfl
theorem r_281_8 : xT.1 281 8 = some (.goto 6, ((14, 0), ([], []))) := (kT_281 8).trans rfl
theorem r_281_11 : xT.1 281 11 = some (.astore_n 2, ((0, 0), ([], []))) := (kT_281 11).trans rfl
theorem r_281_12 : xT.1 281 12 = some (.iconst 1, ((0, 0), ([.int 1], []))) := (kT_281 12).trans rfl
theorem r_281_13 : xT.1 281 13 = some (.ireturn, ((0, 0), ([], []))) := (kT_281 13).trans rfl
theorem r_281_14 : xT.1 281 14 = some (.iconst 0, ((0, 0), ([.int 0], []))) := (kT_281 14).trans rfl
theorem r_281_15 : xT.1 281 15 = some (.ireturn, ((0, 0), ([], []))) := (kT_281 15).trans rfl
theorem kT_282 (pc : Nat) : xT.1 282 pc = xfind k_282 pc := rfl
theorem r_282_0 : xT.1 282 0 = some (.aload_n 2, ((0, 0), ([], []))) := (kT_282 0).trans rfl
theorem r_282_1 : xT.1 282 1 = some (.iconst 0, ((0, 0), ([.int 0], []))) := (kT_282 1).trans rfl
theorem r_282_2 : xT.1 282 2 = some (.aload_n 0, ((0, 0), ([], []))) := (kT_282 2).trans rfl
theorem r_282_3 : xT.1 282 3 = some (.iload_n 1, ((0, 0), ([], []))) := (kT_282 3).trans rfl
theorem r_282_4 : xT.1 282 4 = some (.invokevirtual 147, ((129, 2), ([], [0]))) := (kT_282 4).trans rfl
theorem r_282_7 : xT.1 282 7 = some (.i2l, ((0, 0), ([], []))) := (kT_282 7).trans rfl
theorem r_282_8 : xT.1 282 8 = some (.lastore, ((0, 0), ([], []))) := (kT_282 8).trans rfl
theorem r_282_9 : xT.1 282 9 = some (.goto 6, ((15, 0), ([], []))) := (kT_282 9).trans rfl
theorem r_282_12 : xT.1 282 12 = some (.astore_n 3, ((0, 0), ([], []))) := (kT_282 12).trans rfl
theorem r_282_13 : xT.1 282 13 = some (.iconst 1, ((0, 0), ([.int 1], []))) := (kT_282 13).trans rfl
theorem r_282_14 : xT.1 282 14 = some (.ireturn, ((0, 0), ([], []))) := (kT_282 14).trans rfl
theorem r_282_15 : xT.1 282 15 = some (.iconst 0, ((0, 0), ([.int 0], []))) := (kT_282 15).trans rfl
theorem r_282_16 : xT.1 282 16 = some (.ireturn, ((0, 0), ([], []))) := (kT_282 16).trans rfl
theorem kT_283 (pc : Nat) : xT.1 283 pc = xfind k_283 pc := rfl
theorem r_283_0 : xT.1 283 0 = some (.aload_n 2, ((0, 0), ([], []))) := (kT_283 0).trans rfl
theorem r_283_1 : xT.1 283 1 = some (.iconst 0, ((0, 0), ([.int 0], []))) := (kT_283 1).trans rfl
theorem r_283_2 : xT.1 283 2 = some (.aload_n 0, ((0, 0), ([], []))) := (kT_283 2).trans rfl
theorem r_283_3 : xT.1 283 3 = some (.iload_n 1, ((0, 0), ([], []))) := (kT_283 3).trans rfl
theorem r_283_4 : xT.1 283 4 = some (.invokevirtual 150, ((130, 2), ([], [0]))) := (kT_283 4).trans rfl
theorem r_283_7 : xT.1 283 7 = some (.i2l, ((0, 0), ([], []))) := (kT_283 7).trans rfl
theorem r_283_8 : xT.1 283 8 = some (.lastore, ((0, 0), ([], []))) := (kT_283 8).trans rfl
theorem r_283_9 : xT.1 283 9 = some (.goto 6, ((15, 0), ([], []))) := (kT_283 9).trans rfl
theorem r_283_12 : xT.1 283 12 = some (.astore_n 3, ((0, 0), ([], []))) := (kT_283 12).trans rfl
theorem r_283_13 : xT.1 283 13 = some (.iconst 1, ((0, 0), ([.int 1], []))) := (kT_283 13).trans rfl
theorem r_283_14 : xT.1 283 14 = some (.ireturn, ((0, 0), ([], []))) := (kT_283 14).trans rfl
theorem r_283_15 : xT.1 283 15 = some (.iconst 0, ((0, 0), ([.int 0], []))) := (kT_283 15).trans rfl
theorem r_283_16 : xT.1 283 16 = some (.ireturn, ((0, 0), ([], []))) := (kT_283 16).trans rfl
theorem kT_284 (pc : Nat) : xT.1 284 pc = xfind k_284 pc := rfl
theorem r_284_0 : xT.1 284 0 = some (.aload_n 1, ((0, 0), ([], []))) := (kT_284 0).trans rfl
theorem r_284_1 : xT.1 284 1 = some (.iconst 0, ((0, 0), ([.int 0], []))) := (kT_284 1).trans rfl
theorem r_284_2 : xT.1 284 2 = some (.aload_n 0, ((0, 0), ([], []))) := (kT_284 2).trans rfl
theorem r_284_3 : xT.1 284 3 = some (.invokevirtual 154, ((132, 1), ([], [0]))) := (kT_284 3).trans rfl
theorem r_284_6 : xT.1 284 6 = some (.i2l, ((0, 0), ([], []))) := (kT_284 6).trans rfl
theorem r_284_7 : xT.1 284 7 = some (.lastore, ((0, 0), ([], []))) := (kT_284 7).trans rfl
theorem r_284_8 : xT.1 284 8 = some (.goto 6, ((14, 0), ([], []))) := (kT_284 8).trans rfl
theorem r_284_11 : xT.1 284 11 = some (.astore_n 2, ((0, 0), ([], []))) := (kT_284 11).trans rfl
theorem r_284_12 : xT.1 284 12 = some (.iconst 1, ((0, 0), ([.int 1], []))) := (kT_284 12).trans rfl
theorem r_284_13 : xT.1 284 13 = some (.ireturn, ((0, 0), ([], []))) := (kT_284 13).trans rfl
theorem r_284_14 : xT.1 284 14 = some (.iconst 0, ((0, 0), ([.int 0], []))) := (kT_284 14).trans rfl
theorem r_284_15 : xT.1 284 15 = some (.ireturn, ((0, 0), ([], []))) := (kT_284 15).trans rfl
theorem kT_285 (pc : Nat) : xT.1 285 pc = xfind k_285 pc := rfl
theorem r_285_0 : xT.1 285 0 = some (.aload_n 1, ((0, 0), ([], []))) := (kT_285 0).trans rfl
theorem r_285_1 : xT.1 285 1 = some (.iconst 0, ((0, 0), ([.int 0], []))) := (kT_285 1).trans rfl
theorem r_285_2 : xT.1 285 2 = some (.aload_n 0, ((0, 0), ([], []))) := (kT_285 2).trans rfl
theorem r_285_3 : xT.1 285 3 = some (.invokevirtual 157, ((134, 1), ([], [0]))) := (kT_285 3).trans rfl
theorem r_285_6 : xT.1 285 6 = some (.i2l, ((0, 0), ([], []))) := (kT_285 6).trans rfl
theorem r_285_7 : xT.1 285 7 = some (.lastore, ((0, 0), ([], []))) := (kT_285 7).trans rfl
theorem r_285_8 : xT.1 285 8 = some (.goto 6, ((14, 0), ([], []))) := (kT_285 8).trans rfl
theorem r_285_11 : xT.1 285 11 = some (.astore_n 2, ((0, 0), ([], []))) := (kT_285 11).trans rfl
theorem r_285_12 : xT.1 285 12 = some (.iconst 1, ((0, 0), ([.int 1], []))) := (kT_285 12).trans rfl
theorem r_285_13 : xT.1 285 13 = some (.ireturn, ((0, 0), ([], []))) := (kT_285 13).trans rfl
theorem r_285_14 : xT.1 285 14 = some (.iconst 0, ((0, 0), ([.int 0], []))) := (kT_285 14).trans rfl
theorem r_285_15 : xT.1 285 15 = some (.ireturn, ((0, 0), ([], []))) := (kT_285 15).trans rfl
