/-! the rows of the tables, one by one -/
theorem kT_287 (pc : Nat) : xT.1 287 pc = xfind k_287 pc := rfl
theorem r_287_0 : xT.1 287 0 = some (.lload_n 0, ((0, 0), ([], []))) := (kT_287 0).trans rfl
theorem r_287_1 : xT.1 287 1 = some (.lload_n 0, ((0, 0), ([], []))) := (kT_287 1).trans rfl
theorem r_287_2 : xT.1 287 2 = some (.iconst 1, ((0, 0), ([.int 1], []))) := (kT_287 2).trans rfl
theorem r_287_3 : xT.1 287 3 = some (.lushr, ((0, 0), ([], []))) := (kT_287 3).trans rfl
theorem r_287_4 : xT.1 287 4 = some (.ldc2_w 314, ((0, 0), ([.long (6148914691236517205)], []))) := (kT_287 4).trans rfl
theorem r_287_7 : xT.1 287 7 = some (.land, ((0, 0), ([], []))) := (kT_287 7).trans rfl
theorem r_287_8 : xT.1 287 8 = some (.lsub, ((0, 0), ([], []))) := (kT_287 8).trans rfl
theorem r_287_9 : xT.1 287 9 = some (.lstore_n 0, ((0, 0), ([], []))) := (kT_287 9).trans rfl
theorem r_287_10 : xT.1 287 10 = some (.lload_n 0, ((0, 0), ([], []))) := (kT_287 10).trans rfl
theorem r_287_11 : xT.1 287 11 = some (.ldc2_w 316, ((0, 0), ([.long (3689348814741910323)], []))) := (kT_287 11).trans rfl
theorem r_287_14 : xT.1 287 14 = some (.land, ((0, 0), ([], []))) := (kT_287 14).trans rfl
theorem r_287_15 : xT.1 287 15 = some (.lload_n 0, ((0, 0), ([], []))) := (kT_287 15).trans rfl
theorem r_287_16 : xT.1 287 16 = some (.iconst 2, ((0, 0), ([.int 2], []))) := (kT_287 16).trans rfl
theorem r_287_17 : xT.1 287 17 = some (.lushr, ((0, 0), ([], []))) := (kT_287 17).trans rfl
theorem r_287_18 : xT.1 287 18 = some (.ldc2_w 316, ((0, 0), ([.long (3689348814741910323)], []))) := (kT_287 18).trans rfl
theorem r_287_21 : xT.1 287 21 = some (.land, ((0, 0), ([], []))) := (kT_287 21).trans rfl
theorem r_287_22 : xT.1 287 22 = some (.ladd, ((0, 0), ([], []))) := (kT_287 22).trans rfl
theorem r_287_23 : xT.1 287 23 = some (.lstore_n 0, ((0, 0), ([], []))) := (kT_287 23).trans rfl
theorem r_287_24 : xT.1 287 24 = some (.lload_n 0, ((0, 0), ([], []))) := (kT_287 24).trans rfl
theorem r_287_25 : xT.1 287 25 = some (.lload_n 0, ((0, 0), ([], []))) := (kT_287 25).trans rfl
theorem r_287_26 : xT.1 287 26 = some (.iconst 4, ((0, 0), ([.int 4], []))) := (kT_287 26).trans rfl
theorem r_287_27 : xT.1 287 27 = some (.lushr, ((0, 0), ([], []))) := (kT_287 27).trans rfl
theorem r_287_28 : xT.1 287 28 = some (.ladd, ((0, 0), ([], []))) := (kT_287 28).trans rfl
theorem r_287_29 : xT.1 287 29 = some (.ldc2_w 318, ((0, 0), ([.long (1085102592571150095)], []))) := (kT_287 29).trans rfl
theorem r_287_32 : xT.1 287 32 = some (.land, ((0, 0), ([], []))) := (kT_287 32).trans rfl
theorem r_287_33 : xT.1 287 33 = some (.lstore_n 0, ((0, 0), ([], []))) := (kT_287 33).trans rfl
theorem r_287_34 : xT.1 287 34 = some (.lload_n 0, ((0, 0), ([], []))) := (kT_287 34).trans rfl
theorem r_287_35 : xT.1 287 35 = some (.lload_n 0, ((0, 0), ([], []))) := (kT_287 35).trans rfl
theorem r_287_36 : xT.1 287 36 = some (.bipush 8, ((0, 0), ([.int 8], []))) := (kT_287 36).trans rfl
theorem r_287_38 : xT.1 287 38 = some (.lushr, ((0, 0), ([], []))) := (kT_287 38).trans rfl
theorem r_287_39 : xT.1 287 39 = some (.ladd, ((0, 0), ([], []))) := (kT_287 39).trans rfl
theorem r_287_40 : xT.1 287 40 = some (.lstore_n 0, ((0, 0), ([], []))) := (kT_287 40).trans rfl
theorem r_287_41 : xT.1 287 41 = some (.lload_n 0, ((0, 0), ([], []))) := (kT_287 41).trans rfl
theorem r_287_42 : xT.1 287 42 = some (.lload_n 0, ((0, 0), ([], []))) := (kT_287 42).trans rfl
theorem r_287_43 : xT.1 287 43 = some (.bipush 16, ((0, 0), ([.int 16], []))) := (kT_287 43).trans rfl
theorem r_287_45 : xT.1 287 45 = some (.lushr, ((0, 0), ([], []))) := (kT_287 45).trans rfl
theorem r_287_46 : xT.1 287 46 = some (.ladd, ((0, 0), ([], []))) := (kT_287 46).trans rfl
theorem r_287_47 : xT.1 287 47 = some (.lstore_n 0, ((0, 0), ([], []))) := (kT_287 47).trans rfl
theorem r_287_48 : xT.1 287 48 = some (.lload_n 0, ((0, 0), ([], []))) := (kT_287 48).trans rfl
theorem r_287_49 : xT.1 287 49 = some (.lload_n 0, ((0, 0), ([], []))) := (kT_287 49).trans rfl
theorem r_287_50 : xT.1 287 50 = some (.bipush 32, ((0, 0), ([.int 32], []))) := (kT_287 50).trans rfl
theorem r_287_52 : xT.1 287 52 = some (.lushr, ((0, 0), ([], []))) := (kT_287 52).trans rfl
theorem r_287_53 : xT.1 287 53 = some (.ladd, ((0, 0), ([], []))) := (kT_287 53).trans rfl
theorem r_287_54 : xT.1 287 54 = some (.lstore_n 0, ((0, 0), ([], []))) := (kT_287 54).trans rfl
theorem r_287_55 : xT.1 287 55 = some (.lload_n 0, ((0, 0), ([], []))) := (kT_287 55).trans rfl
theorem r_287_56 : xT.1 287 56 = some (.l2i, ((0, 0), ([], []))) := (kT_287 56).trans rfl
theorem r_287_57 : xT.1 287 57 = some (.bipush 127, ((0, 0), ([.int 127], []))) := (kT_287 57).trans rfl
theorem r_287_59 : xT.1 287 59 = some (.iand, ((0, 0), ([], []))) := (kT_287 59).trans rfl
theorem r_287_60 : xT.1 287 60 = some (.ireturn, ((0, 0), ([], []))) := (kT_287 60).trans rfl
theorem kT_288 (pc : Nat) : xT.1 288 pc = xfind k_288 pc := rfl
theorem r_288_0 : xT.1 288 0 = some (.lload_n 0, ((0, 0), ([], []))) := (kT_288 0).trans rfl
theorem r_288_1 : xT.1 288 1 = some (.l2i, ((0, 0), ([], []))) := (kT_288 1).trans rfl
theorem r_288_2 : xT.1 288 2 = some (.istore_n 2, ((0, 0), ([], []))) := (kT_288 2).trans rfl
theorem r_288_3 : xT.1 288 3 = some (.iload_n 2, ((0, 0), ([], []))) := (kT_288 3).trans rfl
theorem r_288_4 : xT.1 288 4 = some (.ifCond .ne 17, ((21, 0), ([], []))) := (kT_288 4).trans rfl
theorem r_288_7 : xT.1 288 7 = some (.bipush 32, ((0, 0), ([.int 32], []))) := (kT_288 7).trans rfl
theorem r_288_9 : xT.1 288 9 = some (.lload_n 0, ((0, 0), ([], []))) := (kT_288 9).trans rfl
theorem r_288_10 : xT.1 288 10 = some (.bipush 32, ((0, 0), ([.int 32], []))) := (kT_288 10).trans rfl
theorem r_288_12 : xT.1 288 12 = some (.lushr, ((0, 0), ([], []))) := (kT_288 12).trans rfl
theorem r_288_13 : xT.1 288 13 = some (.l2i, ((0, 0), ([], []))) := (kT_288 13).trans rfl
theorem r_288_14 : xT.1 288 14 = some (.invokestatic 311, ((289, 1), ([], [1]))) := (kT_288 14).trans rfl
theorem r_288_17 : xT.1 288 17 = some (.iadd, ((0, 0), ([], []))) := (kT_288 17).trans rfl
theorem r_288_18 : xT.1 288 18 = some (.goto 7, ((25, 0), ([], []))) := (kT_288 18).trans rfl
theorem r_288_21 : xT.1 288 21 = some (.iload_n 2, ((0, 0), ([], []))) := (kT_288 21).trans rfl
theorem r_288_22 : xT.1 288 22 = some (.invokestatic 311, ((289, 1), ([], [1]))) := (kT_288 22).trans rfl
theorem r_288_25 : xT.1 288 25 = some (.ireturn, ((0, 0), ([], []))) := (kT_288 25).trans rfl
theorem kT_289 (pc : Nat) : xT.1 289 pc = xfind k_289 pc := rfl
theorem r_289_0 : xT.1 289 0 = some (.iload_n 0, ((0, 0), ([], []))) := (kT_289 0).trans rfl
theorem r_289_1 : xT.1 289 1 = some (.iconst (-1), ((0, 0), ([.int (-1)], []))) := (kT_289 1).trans rfl
theorem r_289_2 : xT.1 289 2 = some (.ixor, ((0, 0), ([], []))) := (kT_289 2).trans rfl
theorem r_289_3 : xT.1 289 3 = some (.iload_n 0, ((0, 0), ([], []))) := (kT_289 3).trans rfl
theorem r_289_4 : xT.1 289 4 = some (.iconst 1, ((0, 0), ([.int 1], []))) := (kT_289 4).trans rfl
theorem r_289_5 : xT.1 289 5 = some (.isub, ((0, 0), ([], []))) := (kT_289 5).trans rfl
theorem r_289_6 : xT.1 289 6 = some (.iand, ((0, 0), ([], []))) := (kT_289 6).trans rfl
theorem r_289_7 : xT.1 289 7 = some (.istore_n 0, ((0, 0), ([], []))) := (kT_289 7).trans rfl
theorem r_289_8 : xT.1 289 8 = some (.iload_n 0, ((0, 0), ([], []))) := (kT_289 8).trans rfl
theorem r_289_9 : xT.1 289 9 = some (.ifCond .gt 8, ((17, 0), ([], []))) := (kT_289 9).trans rfl
theorem r_289_12 : xT.1 289 12 = some (.iload_n 0, ((0, 0), ([], []))) := (kT_289 12).trans rfl
theorem r_289_13 : xT.1 289 13 = some (.bipush 32, ((0, 0), ([.int 32], []))) := (kT_289 13).trans rfl
theorem r_289_15 : xT.1 289 15 = some (.iand, ((0, 0), ([], []))) := (kT_289 15).trans rfl
theorem r_289_16 : xT.1 289 16 = some (.ireturn, ((0, 0), ([], []))) := (kT_289 16).trans rfl
theorem r_289_17 : xT.1 289 17 = some (.iconst 1, ((0, 0), ([.int 1], []))) := (kT_289 17).trans rfl
theorem r_289_18 : xT.1 289 18 = some (.istore_n 1, ((0, 0), ([], []))) := (kT_289 18).trans rfl
theorem r_289_19 : xT.1 289 19 = some (.iload_n 0, ((0, 0), ([], []))) := (kT_289 19).trans rfl
theorem r_289_20 : xT.1 289 20 = some (.ldc_w 264, ((0, 0), ([.int (65536)], []))) := (kT_289 20).trans rfl
theorem r_289_23 : xT.1 289 23 = some (.if_icmp .le 11, ((34, 0), ([], []))) := (kT_289 23).trans rfl
theorem r_289_26 : xT.1 289 26 = some (.iinc 1 16, ((0, 0), ([.int (16)], []))) := (kT_289 26).trans rfl
theorem r_289_29 : xT.1 289 29 = some (.iload_n 0, ((0, 0), ([], []))) := (kT_289 29).trans rfl
theorem r_289_30 : xT.1 289 30 = some (.bipush 16, ((0, 0), ([.int 16], []))) := (kT_289 30).trans rfl
theorem r_289_32 : xT.1 289 32 = some (.iushr, ((0, 0), ([], []))) := (kT_289 32).trans rfl
theorem r_289_33 : xT.1 289 33 = some (.istore_n 0, ((0, 0), ([], []))) := (kT_289 33).trans rfl
theorem r_289_34 : xT.1 289 34 = some (.iload_n 0, ((0, 0), ([], []))) := (kT_289 34).trans rfl
theorem r_289_35 : xT.1 289 35 = some (.sipush 256, ((0, 0), ([.int 256], []))) := (kT_289 35).trans rfl
theorem r_289_38 : xT.1 289 38 = some (.if_icmp .le 11, ((49, 0), ([], []))) := (kT_289 38).trans rfl
theorem r_289_41 : xT.1 289 41 = some (.iinc 1 8, ((0, 0), ([.int (8)], []))) := (kT_289 41).trans rfl
theorem r_289_44 : xT.1 289 44 = some (.iload_n 0, ((0, 0), ([], []))) := (kT_289 44).trans rfl
theorem r_289_45 : xT.1 289 45 = some (.bipush 8, ((0, 0), ([.int 8], []))) := (kT_289 45).trans rfl
theorem r_289_47 : xT.1 289 47 = some (.iushr, ((0, 0), ([], []))) := (kT_289 47).trans rfl
theorem r_289_48 : xT.1 289 48 = some (.istore_n 0, ((0, 0), ([], []))) := (kT_289 48).trans rfl
theorem r_289_49 : xT.1 289 49 = some (.iload_n 0, ((0, 0), ([], []))) := (kT_289 49).trans rfl
theorem r_289_50 : xT.1 289 50 = some (.bipush 16, ((0, 0), ([.int 16], []))) := (kT_289 50).trans rfl
theorem r_289_52 : xT.1 289 52 = some (.if_icmp .le 10, ((62, 0), ([], []))) := (kT_289 52).trans rfl
theorem r_289_55 : xT.1 289 55 = some (.iinc 1 4, ((0, 0), ([.int (4)], []))) := (kT_289 55).trans rfl
theorem r_289_58 : xT.1 289 58 = some (.iload_n 0, ((0, 0), ([], []))) := (kT_289 58).trans rfl
theorem r_289_59 : xT.1 289 59 = some (.iconst 4, ((0, 0), ([.int 4], []))) := (kT_289 59).trans rfl
theorem r_289_60 : xT.1 289 60 = some (.iushr, ((0, 0), ([], []))) := (kT_289 60).trans rfl
theorem r_289_61 : xT.1 289 61 = some (.istore_n 0, ((0, 0), ([], []))) := (kT_289 61).trans rfl
theorem r_289_62 : xT.1 289 62 = some (.iload_n 0, ((0, 0), ([], []))) := (kT_289 62).trans rfl
theorem r_289_63 : xT.1 289 63 = some (.iconst 4, ((0, 0), ([.int 4], []))) := (kT_289 63).trans rfl
theorem r_289_64 : xT.1 289 64 = some (.if_icmp .le 10, ((74, 0), ([], []))) := (kT_289 64).trans rfl
theorem r_289_67 : xT.1 289 67 = some (.iinc 1 2, ((0, 0), ([.int (2)], []))) := (kT_289 67).trans rfl
theorem r_289_70 : xT.1 289 70 = some (.iload_n 0, ((0, 0), ([], []))) := (kT_289 70).trans rfl
theorem r_289_71 : xT.1 289 71 = some (.iconst 2, ((0, 0), ([.int 2], []))) := (kT_289 71).trans rfl
theorem r_289_72 : xT.1 289 72 = some (.iushr, ((0, 0), ([], []))) := (kT_289 72).trans rfl
theorem r_289_73 : xT.1 289 73 = some (.istore_n 0, ((0, 0), ([], []))) := (kT_289 73).trans rfl
theorem r_289_74 : xT.1 289 74 = some (.iload_n 1, ((0, 0), ([], []))) := (kT_289 74).trans rfl
theorem r_289_75 : xT.1 289 75 = some (.iload_n 0, ((0, 0), ([], []))) := (kT_289 75).trans rfl
theorem r_289_76 : xT.1 289 76 = some (.iconst 1, ((0, 0), ([.int 1], []))) := (kT_289 76).trans rfl
theorem r_289_77 : xT.1 289 77 = some (.iushr, ((0, 0), ([], []))) := (kT_289 77).trans rfl
theorem r_289_78 : xT.1 289 78 = some (.iadd, ((0, 0), ([], []))) := (kT_289 78).trans rfl
theorem r_289_79 : xT.1 289 79 = some (.ireturn, ((0, 0), ([], []))) := (kT_289 79).trans rfl
theorem kT_290 (pc : Nat) : xT.1 290 pc = xfind k_290 pc := rfl
theorem r_290_0 : xT.1 290 0 = some (.iconst 0, ((0, 0), ([.int 0], []))) := (kT_290 0).trans rfl
theorem r_290_1 : xT.1 290 1 = some (.istore_n 2, ((0, 0), ([], []))) := (kT_290 1).trans rfl
theorem r_290_2 : xT.1 290 2 = some (.aload_n 0, ((0, 0), ([], []))) := (kT_290 2).trans rfl
theorem r_290_3 : xT.1 290 3 = some (.arraylength, ((0, 0), ([], []))) := (kT_290 3).trans rfl
theorem r_290_4 : xT.1 290 4 = some (.istore_n 3, ((0, 0), ([], []))) := (kT_290 4).trans rfl
theorem r_290_5 : xT.1 290 5 = some (.iload_n 2, ((0, 0), ([], []))) := (kT_290 5).trans rfl
theorem r_290_6 : xT.1 290 6 = some (.iload_n 3, ((0, 0), ([], []))) := (kT_290 6).trans rfl
theorem r_290_7 : xT.1 290 7 = some (.if_icmp .ge 13, ((20, 0), ([], []))) := (kT_290 7).trans rfl
theorem r_290_10 : xT.1 290 10 = some (.aload_n 0, ((0, 0), ([], []))) := (kT_290 10).trans rfl
theorem r_290_11 : xT.1 290 11 = some (.iload_n 2, ((0, 0), ([], []))) := (kT_290 11).trans rfl
theorem r_290_12 : xT.1 290 12 = some (.iload_n 1, ((0, 0), ([], []))) := (kT_290 12).trans rfl
theorem r_290_13 : xT.1 290 13 = some (.iastore, ((0, 0), ([], []))) := (kT_290 13).trans rfl
theorem r_290_14 : xT.1 290 14 = some (.iinc 2 1, ((0, 0), ([.int (1)], []))) := (kT_290 14).trans rfl
theorem r_290_17 : xT.1 290 17 = some (.goto (-12), ((5, 0), ([], []))) := (kT_290 17).trans rfl
theorem r_290_20 : xT.1 290 20 = some (.return_, ((0, 0), ([], []))) := (kT_290 20).trans rfl
theorem kT_291 (pc : Nat) : xT.1 291 pc = xfind k_291 pc := rfl
theorem r_291_0 : xT.1 291 0 = some (.iconst 0, ((0, 0), ([.int 0], []))) := (kT_291 0).trans rfl
theorem r_291_1 : xT.1 291 1 = some (.istore_n 3, ((0, 0), ([], []))) := (kT_291 1).trans rfl
theorem r_291_2 : xT.1 291 2 = some (.aload_n 0, ((0, 0), ([], []))) := (kT_291 2).trans rfl
theorem r_291_3 : xT.1 291 3 = some (.arraylength, ((0, 0), ([], []))) := (kT_291 3).trans rfl
theorem r_291_4 : xT.1 291 4 = some (.istore 4, ((0, 0), ([], []))) := (kT_291 4).trans rfl
theorem r_291_6 : xT.1 291 6 = some (.iload_n 3, ((0, 0), ([], []))) := (kT_291 6).trans rfl
theorem r_291_7 : xT.1 291 7 = some (.iload 4, ((0, 0), ([], []))) := (kT_291 7).trans rfl
theorem r_291_9 : xT.1 291 9 = some (.if_icmp .ge 13, ((22, 0), ([], []))) := (kT_291 9).trans rfl
theorem r_291_12 : xT.1 291 12 = some (.aload_n 0, ((0, 0), ([], []))) := (kT_291 12).trans rfl
theorem r_291_13 : xT.1 291 13 = some (.iload_n 3, ((0, 0), ([], []))) := (kT_291 13).trans rfl
theorem r_291_14 : xT.1 291 14 = some (.lload_n 1, ((0, 0), ([], []))) := (kT_291 14).trans rfl
theorem r_291_15 : xT.1 291 15 = some (.lastore, ((0, 0), ([], []))) := (kT_291 15).trans rfl
theorem r_291_16 : xT.1 291 16 = some (.iinc 3 1, ((0, 0), ([.int (1)], []))) := (kT_291 16).trans rfl
theorem r_291_19 : xT.1 291 19 = some (.goto (-13), ((6, 0), ([], []))) := (kT_291 19).trans rfl
theorem r_291_22 : xT.1 291 22 = some (.return_, ((0, 0), ([], []))) := (kT_291 22).trans rfl
theorem kT_292 (pc : Nat) : xT.1 292 pc = xfind k_292 pc := rfl
theorem r_292_0 : xT.1 292 0 = some (.aload_n 0, ((0, 0), ([], []))) := (kT_292 0).trans rfl
theorem r_292_1 : xT.1 292 1 = some (.bipush 16, ((0, 0), ([.int 16], []))) := (kT_292 1).trans rfl
theorem r_292_3 : xT.1 292 3 = some (.invokespecial 1, ((298, 2), ([], [2]))) := (kT_292 3).trans rfl
theorem r_292_6 : xT.1 292 6 = some (.return_, ((0, 0), ([], []))) := (kT_292 6).trans rfl
theorem kT_293 (pc : Nat) : xT.1 293 pc = xfind k_293 pc := rfl
theorem r_293_0 : xT.1 293 0 = some (.aload_n 0, ((0, 0), ([], []))) := (kT_293 0).trans rfl
theorem r_293_1 : xT.1 293 1 = some (.iload_n 1, ((0, 0), ([], []))) := (kT_293 1).trans rfl
theorem r_293_2 : xT.1 293 2 = some (.invokespecial 50, ((304, 2), ([], [3]))) := (kT_293 2).trans rfl
theorem r_293_5 : xT.1 293 5 = some (.pop, ((0, 0), ([], []))) := (kT_293 5).trans rfl
theorem r_293_6 : xT.1 293 6 = some (.aload_n 0, ((0, 0), ([], []))) := (kT_293 6).trans rfl
theorem r_293_7 : xT.1 293 7 = some (.areturn, ((0, 0), ([], []))) := (kT_293 7).trans rfl
theorem kT_294 (pc : Nat) : xT.1 294 pc = xfind k_294 pc := rfl
theorem r_294_0 : xT.1 294 0 = some (.aload_n 0, ((0, 0), ([], []))) := (kT_294 0).trans rfl
theorem r_294_1 : xT.1 294 1 = some (.iload_n 1, ((0, 0), ([], []))) := (kT_294 1).trans rfl
theorem r_294_2 : xT.1 294 2 = some (.invokespecial 53, ((305, 2), ([], [3]))) := (kT_294 2).trans rfl
theorem r_294_5 : xT.1 294 5 = some (.pop, ((0, 0), ([], []))) := (kT_294 5).trans rfl
theorem r_294_6 : xT.1 294 6 = some (.aload_n 0, ((0, 0), ([], []))) := (kT_294 6).trans rfl
theorem r_294_7 : xT.1 294 7 = some (.areturn, ((0, 0), ([], []))) := (kT_294 7).trans rfl
theorem kT_295 (pc : Nat) : xT.1 295 pc = xfind k_295 pc := rfl
theorem r_295_0 : xT.1 295 0 = some (.aload_n 0, ((0, 0), ([], []))) := (kT_295 0).trans rfl
theorem r_295_1 : xT.1 295 1 = some (.iload_n 1, ((0, 0), ([], []))) := (kT_295 1).trans rfl
theorem r_295_2 : xT.1 295 2 = some (.invokespecial 329, ((303, 2), ([], [3]))) := (kT_295 2).trans rfl
theorem r_295_5 : xT.1 295 5 = some (.ireturn, ((0, 0), ([], []))) := (kT_295 5).trans rfl
theorem kT_296 (pc : Nat) : xT.1 296 pc = xfind k_296 pc := rfl
theorem r_296_0 : xT.1 296 0 = some (.aload_n 0, ((0, 0), ([], []))) := (kT_296 0).trans rfl
theorem r_296_1 : xT.1 296 1 = some (.iload_n 1, ((0, 0), ([], []))) := (kT_296 1).trans rfl
theorem r_296_2 : xT.1 296 2 = some (.invokespecial 333, ((302, 2), ([], [3]))) := (kT_296 2).trans rfl
theorem r_296_5 : xT.1 296 5 = some (.return_, ((0, 0), ([], []))) := (kT_296 5).trans rfl
theorem kT_297 (pc : Nat) : xT.1 297 pc = xfind k_297 pc := rfl
theorem r_297_0 : xT.1 297 0 = some (.aload_n 0, ((0, 0), ([], []))) := (kT_297 0).trans rfl
theorem r_297_1 : xT.1 297 1 = some (.invokespecial 343, ((299, 1), ([], [3]))) := (kT_297 1).trans rfl
theorem r_297_4 : xT.1 297 4 = some (.ireturn, ((0, 0), ([], []))) := (kT_297 4).trans rfl
theorem kT_298 (pc : Nat) : xT.1 298 pc = xfind k_298 pc := rfl
theorem r_298_0 : xT.1 298 0 = some (.aload_n 0, ((0, 0), ([], []))) := (kT_298 0).trans rfl
theorem r_298_1 : xT.1 298 1 = some (.invokespecial 3, ((0, 1), ([], [5]))) := (kT_298 1).trans rfl
theorem r_298_4 : xT.1 298 4 = some (.getstatic 18, ((0, 0), ([.int 1], []))) := (kT_298 4).trans rfl
theorem r_298_7 : xT.1 298 7 = some (.ifCond .eq 18, ((25, 0), ([], []))) := (kT_298 7).trans rfl
theorem r_298_10 : xT.1 298 10 = some (.aload_n 0, ((0, 0), ([], []))) := (kT_298 10).trans rfl
theorem r_298_11 : xT.1 298 11 = some (.iload_n 1, ((0, 0), ([], []))) := (kT_298 11).trans rfl
theorem r_298_12 : xT.1 298 12 = some (.newarray .byte, ((0, 0), ([], []))) := (kT_298 12).trans rfl
theorem r_298_14 : xT.1 298 14 = some (.putfield 15, ((10, 0), ([], [2]))) := (kT_298 14).trans rfl
theorem r_298_17 : xT.1 298 17 = some (.aload_n 0, ((0, 0), ([], []))) := (kT_298 17).trans rfl
theorem r_298_18 : xT.1 298 18 = some (.iconst 0, ((0, 0), ([.int 0], []))) := (kT_298 18).trans rfl
theorem r_298_19 : xT.1 298 19 = some (.putfield 22, ((10, 1), ([], [3]))) := (kT_298 19).trans rfl
theorem r_298_22 : xT.1 298 22 = some (.goto 16, ((38, 0), ([], []))) := (kT_298 22).trans rfl
theorem r_298_25 : xT.1 298 25 = some (.aload_n 0, ((0, 0), ([], []))) := (kT_298 25).trans rfl
theorem r_298_26 : xT.1 298 26 = some (.iload_n 1, ((0, 0), ([], []))) := (kT_298 26).trans rfl
theorem r_298_30 : xT.1 298 30 = some (.putfield 15, ((10, 0), ([], [2]))) := (kT_298 30).trans rfl
theorem r_298_33 : xT.1 298 33 = some (.aload_n 0, ((0, 0), ([], []))) := (kT_298 33).trans rfl
theorem r_298_34 : xT.1 298 34 = some (.iconst 1, ((0, 0), ([.int 1], []))) := (kT_298 34).trans rfl
theorem r_298_35 : xT.1 298 35 = some (.putfield 22, ((10, 1), ([], [3]))) := (kT_298 35).trans rfl
theorem r_298_38 : xT.1 298 38 = some (.return_, ((0, 0), ([], []))) := (kT_298 38).trans rfl
theorem kT_299 (pc : Nat) : xT.1 299 pc = xfind k_299 pc := rfl
theorem r_299_0 : xT.1 299 0 = some (.aload_n 0, ((0, 0), ([], []))) := (kT_299 0).trans rfl
theorem r_299_1 : xT.1 299 1 = some (.getfield 79, ((10, 3), ([], []))) := (kT_299 1).trans rfl
theorem r_299_4 : xT.1 299 4 = some (.ireturn, ((0, 0), ([], []))) := (kT_299 4).trans rfl
theorem kT_300 (pc : Nat) : xT.1 300 pc = xfind k_300 pc := rfl
theorem r_300_0 : xT.1 300 0 = some (.aload_n 0, ((0, 0), ([], []))) := (kT_300 0).trans rfl
theorem r_300_1 : xT.1 300 1 = some (.getfield 15, ((10, 0), ([], []))) := (kT_300 1).trans rfl
theorem r_300_4 : xT.1 300 4 = some (.arraylength, ((0, 0), ([], []))) := (kT_300 4).trans rfl
theorem r_300_5 : xT.1 300 5 = some (.aload_n 0, ((0, 0), ([], []))) := (kT_300 5).trans rfl
theorem r_300_6 : xT.1 300 6 = some (.getfield 22, ((10, 1), ([], []))) := (kT_300 6).trans rfl
theorem r_300_9 : xT.1 300 9 = some (.ishr, ((0, 0), ([], []))) := (kT_300 9).trans rfl
theorem r_300_10 : xT.1 300 10 = some (.istore_n 2, ((0, 0), ([], []))) := (kT_300 10).trans rfl
theorem r_300_11 : xT.1 300 11 = some (.iload_n 1, ((0, 0), ([], []))) := (kT_300 11).trans rfl
theorem r_300_12 : xT.1 300 12 = some (.iload_n 2, ((0, 0), ([], []))) := (kT_300 12).trans rfl
theorem r_300_13 : xT.1 300 13 = some (.isub, ((0, 0), ([], []))) := (kT_300 13).trans rfl
theorem r_300_14 : xT.1 300 14 = some (.ifCond .le 24, ((38, 0), ([], []))) := (kT_300 14).trans rfl
theorem r_300_17 : xT.1 300 17 = some (.aload_n 0, ((0, 0), ([], []))) := (kT_300 17).trans rfl
theorem r_300_18 : xT.1 300 18 = some (.aload_n 0, ((0, 0), ([], []))) := (kT_300 18).trans rfl
theorem r_300_19 : xT.1 300 19 = some (.getfield 15, ((10, 0), ([], []))) := (kT_300 19).trans rfl
theorem r_300_22 : xT.1 300 22 = some (.aload_n 0, ((0, 0), ([], []))) := (kT_300 22).trans rfl
theorem r_300_23 : xT.1 300 23 = some (.iload_n 1, ((0, 0), ([], []))) := (kT_300 23).trans rfl
theorem r_300_24 : xT.1 300 24 = some (.invokevirtual 104, ((301, 2), ([], [0]))) := (kT_300 24).trans rfl
theorem r_300_27 : xT.1 300 27 = some (.aload_n 0, ((0, 0), ([], []))) := (kT_300 27).trans rfl
theorem r_300_28 : xT.1 300 28 = some (.getfield 22, ((10, 1), ([], []))) := (kT_300 28).trans rfl
theorem r_300_31 : xT.1 300 31 = some (.ishl, ((0, 0), ([], []))) := (kT_300 31).trans rfl
theorem r_300_32 : xT.1 300 32 = some (.invokestatic 108, ((310, 2), ([], [1]))) := (kT_300 32).trans rfl
theorem r_300_35 : xT.1 300 35 = some (.putfield 15, ((10, 0), ([], [2]))) := (kT_300 35).trans rfl
theorem r_300_38 : xT.1 300 38 = some (.return_, ((0, 0), ([], []))) := (kT_300 38).trans rfl
theorem kT_301 (pc : Nat) : xT.1 301 pc = xfind k_301 pc := rfl
theorem r_301_0 : xT.1 301 0 = some (.aload_n 0, ((0, 0), ([], []))) := (kT_301 0).trans rfl
theorem r_301_1 : xT.1 301 1 = some (.getfield 15, ((10, 0), ([], []))) := (kT_301 1).trans rfl
theorem r_301_4 : xT.1 301 4 = some (.arraylength, ((0, 0), ([], []))) := (kT_301 4).trans rfl
theorem r_301_5 : xT.1 301 5 = some (.istore_n 2, ((0, 0), ([], []))) := (kT_301 5).trans rfl
theorem r_301_6 : xT.1 301 6 = some (.iload_n 1, ((0, 0), ([], []))) := (kT_301 6).trans rfl
theorem r_301_7 : xT.1 301 7 = some (.aload_n 0, ((0, 0), ([], []))) := (kT_301 7).trans rfl
theorem r_301_8 : xT.1 301 8 = some (.getfield 22, ((10, 1), ([], []))) := (kT_301 8).trans rfl
theorem r_301_11 : xT.1 301 11 = some (.ishl, ((0, 0), ([], []))) := (kT_301 11).trans rfl
theorem r_301_12 : xT.1 301 12 = some (.istore_n 3, ((0, 0), ([], []))) := (kT_301 12).trans rfl
theorem r_301_13 : xT.1 301 13 = some (.iload_n 3, ((0, 0), ([], []))) := (kT_301 13).trans rfl
theorem r_301_14 : xT.1 301 14 = some (.iload_n 2, ((0, 0), ([], []))) := (kT_301 14).trans rfl
theorem r_301_15 : xT.1 301 15 = some (.isub, ((0, 0), ([], []))) := (kT_301 15).trans rfl
theorem r_301_16 : xT.1 301 16 = some (.istore 4, ((0, 0), ([], []))) := (kT_301 16).trans rfl
theorem r_301_18 : xT.1 301 18 = some (.iload_n 2, ((0, 0), ([], []))) := (kT_301 18).trans rfl
theorem r_301_19 : xT.1 301 19 = some (.iload 4, ((0, 0), ([], []))) := (kT_301 19).trans rfl
theorem r_301_21 : xT.1 301 21 = some (.iload_n 2, ((0, 0), ([], []))) := (kT_301 21).trans rfl
theorem r_301_22 : xT.1 301 22 = some (.iconst 2, ((0, 0), ([.int 2], []))) := (kT_301 22).trans rfl
theorem r_301_23 : xT.1 301 23 = some (.aload_n 0, ((0, 0), ([], []))) := (kT_301 23).trans rfl
theorem r_301_24 : xT.1 301 24 = some (.getfield 22, ((10, 1), ([], []))) := (kT_301 24).trans rfl
theorem r_301_27 : xT.1 301 27 = some (.ishl, ((0, 0), ([], []))) := (kT_301 27).trans rfl
theorem r_301_28 : xT.1 301 28 = some (.iadd, ((0, 0), ([], []))) := (kT_301 28).trans rfl
theorem r_301_29 : xT.1 301 29 = some (.invokestatic 114, ((311, 3), ([], [1]))) := (kT_301 29).trans rfl
theorem r_301_32 : xT.1 301 32 = some (.istore 5, ((0, 0), ([], []))) := (kT_301 32).trans rfl
theorem r_301_34 : xT.1 301 34 = some (.iload 5, ((0, 0), ([], []))) := (kT_301 34).trans rfl
theorem r_301_36 : xT.1 301 36 = some (.ldc 39, ((0, 0), ([.int (2147483647)], []))) := (kT_301 36).trans rfl
theorem r_301_38 : xT.1 301 38 = some (.if_icmp .ne 13, ((51, 0), ([], []))) := (kT_301 38).trans rfl
theorem r_301_44 : xT.1 301 44 = some (.dup, ((0, 0), ([], []))) := (kT_301 44).trans rfl
theorem r_301_50 : xT.1 301 50 = some (.athrow, ((0, 0), ([], []))) := (kT_301 50).trans rfl
theorem r_301_51 : xT.1 301 51 = some (.iload 5, ((0, 0), ([], []))) := (kT_301 51).trans rfl
theorem r_301_53 : xT.1 301 53 = some (.aload_n 0, ((0, 0), ([], []))) := (kT_301 53).trans rfl
theorem r_301_54 : xT.1 301 54 = some (.getfield 22, ((10, 1), ([], []))) := (kT_301 54).trans rfl
theorem r_301_57 : xT.1 301 57 = some (.ishr, ((0, 0), ([], []))) := (kT_301 57).trans rfl
theorem r_301_58 : xT.1 301 58 = some (.ireturn, ((0, 0), ([], []))) := (kT_301 58).trans rfl
theorem kT_302 (pc : Nat) : xT.1 302 pc = xfind k_302 pc := rfl
theorem r_302_0 : xT.1 302 0 = some (.iload_n 1, ((0, 0), ([], []))) := (kT_302 0).trans rfl
theorem r_302_1 : xT.1 302 1 = some (.ifCond .ge 12, ((13, 0), ([], []))) := (kT_302 1).trans rfl
theorem r_302_7 : xT.1 302 7 = some (.dup, ((0, 0), ([], []))) := (kT_302 7).trans rfl
theorem r_302_8 : xT.1 302 8 = some (.iload_n 1, ((0, 0), ([], []))) := (kT_302 8).trans rfl
theorem r_302_12 : xT.1 302 12 = some (.athrow, ((0, 0), ([], []))) := (kT_302 12).trans rfl
theorem r_302_13 : xT.1 302 13 = some (.aload_n 0, ((0, 0), ([], []))) := (kT_302 13).trans rfl
theorem r_302_14 : xT.1 302 14 = some (.iload_n 1, ((0, 0), ([], []))) := (kT_302 14).trans rfl
theorem r_302_15 : xT.1 302 15 = some (.invokevirtual 100, ((300, 2), ([], [0]))) := (kT_302 15).trans rfl
theorem r_302_18 : xT.1 302 18 = some (.aload_n 0, ((0, 0), ([], []))) := (kT_302 18).trans rfl
theorem r_302_19 : xT.1 302 19 = some (.getfield 79, ((10, 3), ([], []))) := (kT_302 19).trans rfl
theorem r_302_22 : xT.1 302 22 = some (.iload_n 1, ((0, 0), ([], []))) := (kT_302 22).trans rfl
theorem r_302_23 : xT.1 302 23 = some (.if_icmp .ge 40, ((63, 0), ([], []))) := (kT_302 23).trans rfl
theorem r_302_26 : xT.1 302 26 = some (.aload_n 0, ((0, 0), ([], []))) := (kT_302 26).trans rfl
theorem r_302_27 : xT.1 302 27 = some (.invokevirtual 83, ((306, 1), ([], [0]))) := (kT_302 27).trans rfl
theorem r_302_30 : xT.1 302 30 = some (.ifCond .eq 18, ((48, 0), ([], []))) := (kT_302 30).trans rfl
theorem r_302_33 : xT.1 302 33 = some (.aload_n 0, ((0, 0), ([], []))) := (kT_302 33).trans rfl
theorem r_302_34 : xT.1 302 34 = some (.getfield 15, ((10, 0), ([], []))) := (kT_302 34).trans rfl
theorem r_302_37 : xT.1 302 37 = some (.aload_n 0, ((0, 0), ([], []))) := (kT_302 37).trans rfl
theorem r_302_38 : xT.1 302 38 = some (.getfield 79, ((10, 3), ([], []))) := (kT_302 38).trans rfl
theorem r_302_41 : xT.1 302 41 = some (.iload_n 1, ((0, 0), ([], []))) := (kT_302 41).trans rfl
theorem r_302_45 : xT.1 302 45 = some (.goto 31, ((76, 0), ([], []))) := (kT_302 45).trans rfl
theorem r_302_48 : xT.1 302 48 = some (.aload_n 0, ((0, 0), ([], []))) := (kT_302 48).trans rfl
theorem r_302_49 : xT.1 302 49 = some (.getfield 15, ((10, 0), ([], []))) := (kT_302 49).trans rfl
theorem r_302_52 : xT.1 302 52 = some (.aload_n 0, ((0, 0), ([], []))) := (kT_302 52).trans rfl
theorem r_302_53 : xT.1 302 53 = some (.getfield 79, ((10, 3), ([], []))) := (kT_302 53).trans rfl
theorem r_302_56 : xT.1 302 56 = some (.iload_n 1, ((0, 0), ([], []))) := (kT_302 56).trans rfl
theorem r_302_60 : xT.1 302 60 = some (.goto 16, ((76, 0), ([], []))) := (kT_302 60).trans rfl
theorem r_302_63 : xT.1 302 63 = some (.aload_n 0, ((0, 0), ([], []))) := (kT_302 63).trans rfl
theorem r_302_64 : xT.1 302 64 = some (.getfield 79, ((10, 3), ([], []))) := (kT_302 64).trans rfl
theorem r_302_67 : xT.1 302 67 = some (.iload_n 1, ((0, 0), ([], []))) := (kT_302 67).trans rfl
theorem r_302_68 : xT.1 302 68 = some (.if_icmp .le 8, ((76, 0), ([], []))) := (kT_302 68).trans rfl
theorem r_302_71 : xT.1 302 71 = some (.aload_n 0, ((0, 0), ([], []))) := (kT_302 71).trans rfl
theorem r_302_72 : xT.1 302 72 = some (.iconst 1, ((0, 0), ([.int 1], []))) := (kT_302 72).trans rfl
theorem r_302_73 : xT.1 302 73 = some (.putfield 73, ((10, 2), ([], [1]))) := (kT_302 73).trans rfl
theorem r_302_76 : xT.1 302 76 = some (.aload_n 0, ((0, 0), ([], []))) := (kT_302 76).trans rfl
theorem r_302_77 : xT.1 302 77 = some (.iload_n 1, ((0, 0), ([], []))) := (kT_302 77).trans rfl
theorem r_302_78 : xT.1 302 78 = some (.putfield 79, ((10, 3), ([], [0]))) := (kT_302 78).trans rfl
theorem r_302_81 : xT.1 302 81 = some (.return_, ((0, 0), ([], []))) := (kT_302 81).trans rfl
theorem kT_303 (pc : Nat) : xT.1 303 pc = xfind k_303 pc := rfl
theorem r_303_0 : xT.1 303 0 = some (.aload_n 0, ((0, 0), ([], []))) := (kT_303 0).trans rfl
theorem r_303_1 : xT.1 303 1 = some (.getfield 22, ((10, 1), ([], []))) := (kT_303 1).trans rfl
theorem r_303_4 : xT.1 303 4 = some (.istore_n 2, ((0, 0), ([], []))) := (kT_303 4).trans rfl
theorem r_303_5 : xT.1 303 5 = some (.aload_n 0, ((0, 0), ([], []))) := (kT_303 5).trans rfl
theorem r_303_6 : xT.1 303 6 = some (.getfield 15, ((10, 0), ([], []))) := (kT_303 6).trans rfl
theorem r_303_9 : xT.1 303 9 = some (.astore_n 3, ((0, 0), ([], []))) := (kT_303 9).trans rfl
theorem r_303_10 : xT.1 303 10 = some (.aload_n 0, ((0, 0), ([], []))) := (kT_303 10).trans rfl
theorem r_303_11 : xT.1 303 11 = some (.getfield 79, ((10, 3), ([], []))) := (kT_303 11).trans rfl
theorem r_303_14 : xT.1 303 14 = some (.aload_n 3, ((0, 0), ([], []))) := (kT_303 14).trans rfl
theorem r_303_15 : xT.1 303 15 = some (.arraylength, ((0, 0), ([], []))) := (kT_303 15).trans rfl
theorem r_303_16 : xT.1 303 16 = some (.iload_n 2, ((0, 0), ([], []))) := (kT_303 16).trans rfl
theorem r_303_17 : xT.1 303 17 = some (.ishr, ((0, 0), ([], []))) := (kT_303 17).trans rfl
theorem r_303_18 : xT.1 303 18 = some (.invokestatic 138, ((21, 2), ([], [4]))) := (kT_303 18).trans rfl
theorem r_303_21 : xT.1 303 21 = some (.istore 4, ((0, 0), ([], []))) := (kT_303 21).trans rfl
theorem r_303_23 : xT.1 303 23 = some (.iload_n 1, ((0, 0), ([], []))) := (kT_303 23).trans rfl
theorem r_303_24 : xT.1 303 24 = some (.iload 4, ((0, 0), ([], []))) := (kT_303 24).trans rfl
theorem r_303_26 : xT.1 303 26 = some (.invokestatic 144, ((4, 2), ([], [4]))) := (kT_303 26).trans rfl
theorem r_303_29 : xT.1 303 29 = some (.iload_n 2, ((0, 0), ([], []))) := (kT_303 29).trans rfl
theorem r_303_30 : xT.1 303 30 = some (.ifCond .ne 12, ((42, 0), ([], []))) := (kT_303 30).trans rfl
theorem r_303_33 : xT.1 303 33 = some (.aload_n 3, ((0, 0), ([], []))) := (kT_303 33).trans rfl
theorem r_303_34 : xT.1 303 34 = some (.iload_n 1, ((0, 0), ([], []))) := (kT_303 34).trans rfl
theorem r_303_35 : xT.1 303 35 = some (.baload, ((0, 0), ([], []))) := (kT_303 35).trans rfl
theorem r_303_36 : xT.1 303 36 = some (.sipush 255, ((0, 0), ([.int 255], []))) := (kT_303 36).trans rfl
theorem r_303_39 : xT.1 303 39 = some (.iand, ((0, 0), ([], []))) := (kT_303 39).trans rfl
theorem r_303_40 : xT.1 303 40 = some (.i2c, ((0, 0), ([], []))) := (kT_303 40).trans rfl
theorem r_303_41 : xT.1 303 41 = some (.ireturn, ((0, 0), ([], []))) := (kT_303 41).trans rfl
theorem r_303_42 : xT.1 303 42 = some (.aload_n 3, ((0, 0), ([], []))) := (kT_303 42).trans rfl
theorem r_303_43 : xT.1 303 43 = some (.iload_n 1, ((0, 0), ([], []))) := (kT_303 43).trans rfl
theorem r_303_47 : xT.1 303 47 = some (.ireturn, ((0, 0), ([], []))) := (kT_303 47).trans rfl
theorem kT_304 (pc : Nat) : xT.1 304 pc = xfind k_304 pc := rfl
theorem r_304_0 : xT.1 304 0 = some (.aload_n 0, ((0, 0), ([], []))) := (kT_304 0).trans rfl
theorem r_304_1 : xT.1 304 1 = some (.aload_n 0, ((0, 0), ([], []))) := (kT_304 1).trans rfl
theorem r_304_2 : xT.1 304 2 = some (.getfield 79, ((10, 3), ([], []))) := (kT_304 2).trans rfl
theorem r_304_5 : xT.1 304 5 = some (.iconst 1, ((0, 0), ([.int 1], []))) := (kT_304 5).trans rfl
theorem r_304_6 : xT.1 304 6 = some (.iadd, ((0, 0), ([], []))) := (kT_304 6).trans rfl
theorem r_304_7 : xT.1 304 7 = some (.invokevirtual 100, ((300, 2), ([], [0]))) := (kT_304 7).trans rfl
theorem r_304_10 : xT.1 304 10 = some (.aload_n 0, ((0, 0), ([], []))) := (kT_304 10).trans rfl
theorem r_304_11 : xT.1 304 11 = some (.invokevirtual 83, ((306, 1), ([], [0]))) := (kT_304 11).trans rfl
theorem r_304_14 : xT.1 304 14 = some (.ifCond .eq 31, ((45, 0), ([], []))) := (kT_304 14).trans rfl
theorem r_304_17 : xT.1 304 17 = some (.iload_n 1, ((0, 0), ([], []))) := (kT_304 17).trans rfl
theorem r_304_18 : xT.1 304 18 = some (.invokestatic 191, ((309, 1), ([], [1]))) := (kT_304 18).trans rfl
theorem r_304_21 : xT.1 304 21 = some (.ifCond .eq 24, ((45, 0), ([], []))) := (kT_304 21).trans rfl
theorem r_304_24 : xT.1 304 24 = some (.aload_n 0, ((0, 0), ([], []))) := (kT_304 24).trans rfl
theorem r_304_25 : xT.1 304 25 = some (.getfield 15, ((10, 0), ([], []))) := (kT_304 25).trans rfl
theorem r_304_28 : xT.1 304 28 = some (.aload_n 0, ((0, 0), ([], []))) := (kT_304 28).trans rfl
theorem r_304_29 : xT.1 304 29 = some (.dup, ((0, 0), ([], []))) := (kT_304 29).trans rfl
theorem r_304_30 : xT.1 304 30 = some (.getfield 79, ((10, 3), ([], []))) := (kT_304 30).trans rfl
theorem r_304_33 : xT.1 304 33 = some (.dup_x1, ((0, 0), ([], []))) := (kT_304 33).trans rfl
theorem r_304_34 : xT.1 304 34 = some (.iconst 1, ((0, 0), ([.int 1], []))) := (kT_304 34).trans rfl
theorem r_304_35 : xT.1 304 35 = some (.iadd, ((0, 0), ([], []))) := (kT_304 35).trans rfl
theorem r_304_36 : xT.1 304 36 = some (.putfield 79, ((10, 3), ([], [0]))) := (kT_304 36).trans rfl
theorem r_304_39 : xT.1 304 39 = some (.iload_n 1, ((0, 0), ([], []))) := (kT_304 39).trans rfl
theorem r_304_40 : xT.1 304 40 = some (.i2b, ((0, 0), ([], []))) := (kT_304 40).trans rfl
theorem r_304_41 : xT.1 304 41 = some (.bastore, ((0, 0), ([], []))) := (kT_304 41).trans rfl
theorem r_304_42 : xT.1 304 42 = some (.goto 33, ((75, 0), ([], []))) := (kT_304 42).trans rfl
theorem r_304_45 : xT.1 304 45 = some (.aload_n 0, ((0, 0), ([], []))) := (kT_304 45).trans rfl
theorem r_304_46 : xT.1 304 46 = some (.invokevirtual 83, ((306, 1), ([], [0]))) := (kT_304 46).trans rfl
theorem r_304_49 : xT.1 304 49 = some (.ifCond .eq 7, ((56, 0), ([], []))) := (kT_304 49).trans rfl
theorem r_304_52 : xT.1 304 52 = some (.aload_n 0, ((0, 0), ([], []))) := (kT_304 52).trans rfl
theorem r_304_56 : xT.1 304 56 = some (.aload_n 0, ((0, 0), ([], []))) := (kT_304 56).trans rfl
theorem r_304_57 : xT.1 304 57 = some (.getfield 15, ((10, 0), ([], []))) := (kT_304 57).trans rfl
theorem r_304_60 : xT.1 304 60 = some (.aload_n 0, ((0, 0), ([], []))) := (kT_304 60).trans rfl
theorem r_304_61 : xT.1 304 61 = some (.dup, ((0, 0), ([], []))) := (kT_304 61).trans rfl
theorem r_304_62 : xT.1 304 62 = some (.getfield 79, ((10, 3), ([], []))) := (kT_304 62).trans rfl
theorem r_304_65 : xT.1 304 65 = some (.dup_x1, ((0, 0), ([], []))) := (kT_304 65).trans rfl
theorem r_304_66 : xT.1 304 66 = some (.iconst 1, ((0, 0), ([.int 1], []))) := (kT_304 66).trans rfl
theorem r_304_67 : xT.1 304 67 = some (.iadd, ((0, 0), ([], []))) := (kT_304 67).trans rfl
theorem r_304_68 : xT.1 304 68 = some (.putfield 79, ((10, 3), ([], [0]))) := (kT_304 68).trans rfl
theorem r_304_71 : xT.1 304 71 = some (.iload_n 1, ((0, 0), ([], []))) := (kT_304 71).trans rfl
theorem r_304_75 : xT.1 304 75 = some (.aload_n 0, ((0, 0), ([], []))) := (kT_304 75).trans rfl
theorem r_304_76 : xT.1 304 76 = some (.areturn, ((0, 0), ([], []))) := (kT_304 76).trans rfl
theorem kT_305 (pc : Nat) : xT.1 305 pc = xfind k_305 pc := rfl
theorem r_305_0 : xT.1 305 0 = some (.aload_n 0, ((0, 0), ([], []))) := (kT_305 0).trans rfl
theorem r_305_1 : xT.1 305 1 = some (.getfield 79, ((10, 3), ([], []))) := (kT_305 1).trans rfl
theorem r_305_4 : xT.1 305 4 = some (.istore_n 2, ((0, 0), ([], []))) := (kT_305 4).trans rfl
theorem r_305_5 : xT.1 305 5 = some (.iload_n 2, ((0, 0), ([], []))) := (kT_305 5).trans rfl
theorem r_305_6 : xT.1 305 6 = some (.iload_n 1, ((0, 0), ([], []))) := (kT_305 6).trans rfl
theorem r_305_7 : xT.1 305 7 = some (.invokestatic 245, ((308, 1), ([], [1]))) := (kT_305 7).trans rfl
theorem r_305_10 : xT.1 305 10 = some (.iadd, ((0, 0), ([], []))) := (kT_305 10).trans rfl
theorem r_305_11 : xT.1 305 11 = some (.istore_n 3, ((0, 0), ([], []))) := (kT_305 11).trans rfl
theorem r_305_12 : xT.1 305 12 = some (.aload_n 0, ((0, 0), ([], []))) := (kT_305 12).trans rfl
theorem r_305_13 : xT.1 305 13 = some (.iload_n 3, ((0, 0), ([], []))) := (kT_305 13).trans rfl
theorem r_305_14 : xT.1 305 14 = some (.invokevirtual 100, ((300, 2), ([], [0]))) := (kT_305 14).trans rfl
theorem r_305_17 : xT.1 305 17 = some (.aload_n 0, ((0, 0), ([], []))) := (kT_305 17).trans rfl
theorem r_305_18 : xT.1 305 18 = some (.invokevirtual 83, ((306, 1), ([], [0]))) := (kT_305 18).trans rfl
theorem r_305_21 : xT.1 305 21 = some (.ifCond .eq 16, ((37, 0), ([], []))) := (kT_305 21).trans rfl
theorem r_305_24 : xT.1 305 24 = some (.iload_n 1, ((0, 0), ([], []))) := (kT_305 24).trans rfl
theorem r_305_25 : xT.1 305 25 = some (.iload_n 3, ((0, 0), ([], []))) := (kT_305 25).trans rfl
theorem r_305_26 : xT.1 305 26 = some (.aload_n 0, ((0, 0), ([], []))) := (kT_305 26).trans rfl
theorem r_305_27 : xT.1 305 27 = some (.getfield 15, ((10, 0), ([], []))) := (kT_305 27).trans rfl
theorem r_305_30 : xT.1 305 30 = some (.invokestatic 248, ((307, 3), ([], [1]))) := (kT_305 30).trans rfl
theorem r_305_33 : xT.1 305 33 = some (.pop, ((0, 0), ([], []))) := (kT_305 33).trans rfl
theorem r_305_34 : xT.1 305 34 = some (.goto 14, ((48, 0), ([], []))) := (kT_305 34).trans rfl
theorem r_305_37 : xT.1 305 37 = some (.iload_n 1, ((0, 0), ([], []))) := (kT_305 37).trans rfl
theorem r_305_38 : xT.1 305 38 = some (.iload_n 2, ((0, 0), ([], []))) := (kT_305 38).trans rfl
theorem r_305_39 : xT.1 305 39 = some (.iload_n 3, ((0, 0), ([], []))) := (kT_305 39).trans rfl
theorem r_305_40 : xT.1 305 40 = some (.aload_n 0, ((0, 0), ([], []))) := (kT_305 40).trans rfl
theorem r_305_41 : xT.1 305 41 = some (.getfield 15, ((10, 0), ([], []))) := (kT_305 41).trans rfl
theorem r_305_47 : xT.1 305 47 = some (.pop, ((0, 0), ([], []))) := (kT_305 47).trans rfl
theorem r_305_48 : xT.1 305 48 = some (.aload_n 0, ((0, 0), ([], []))) := (kT_305 48).trans rfl
theorem r_305_49 : xT.1 305 49 = some (.iload_n 3, ((0, 0), ([], []))) := (kT_305 49).trans rfl
theorem r_305_50 : xT.1 305 50 = some (.putfield 79, ((10, 3), ([], [0]))) := (kT_305 50).trans rfl
theorem r_305_53 : xT.1 305 53 = some (.aload_n 0, ((0, 0), ([], []))) := (kT_305 53).trans rfl
theorem r_305_54 : xT.1 305 54 = some (.areturn, ((0, 0), ([], []))) := (kT_305 54).trans rfl
theorem kT_306 (pc : Nat) : xT.1 306 pc = xfind k_306 pc := rfl
theorem r_306_0 : xT.1 306 0 = some (.getstatic 18, ((0, 0), ([.int 1], []))) := (kT_306 0).trans rfl
theorem r_306_3 : xT.1 306 3 = some (.ifCond .eq 14, ((17, 0), ([], []))) := (kT_306 3).trans rfl
theorem r_306_6 : xT.1 306 6 = some (.aload_n 0, ((0, 0), ([], []))) := (kT_306 6).trans rfl
theorem r_306_7 : xT.1 306 7 = some (.getfield 22, ((10, 1), ([], []))) := (kT_306 7).trans rfl
theorem r_306_10 : xT.1 306 10 = some (.ifCond .ne 7, ((17, 0), ([], []))) := (kT_306 10).trans rfl
theorem r_306_13 : xT.1 306 13 = some (.iconst 1, ((0, 0), ([.int 1], []))) := (kT_306 13).trans rfl
theorem r_306_14 : xT.1 306 14 = some (.goto 4, ((18, 0), ([], []))) := (kT_306 14).trans rfl
theorem r_306_17 : xT.1 306 17 = some (.iconst 0, ((0, 0), ([.int 0], []))) := (kT_306 17).trans rfl
theorem r_306_18 : xT.1 306 18 = some (.ireturn, ((0, 0), ([], []))) := (kT_306 18).trans rfl
theorem kT_307 (pc : Nat) : xT.1 307 pc = xfind k_307 pc := rfl
theorem r_307_0 : xT.1 307 0 = some (.iload_n 1, ((0, 0), ([], []))) := (kT_307 0).trans rfl
theorem r_307_1 : xT.1 307 1 = some (.istore 5, ((0, 0), ([], []))) := (kT_307 1).trans rfl
theorem r_307_3 : xT.1 307 3 = some (.iload_n 0, ((0, 0), ([], []))) := (kT_307 3).trans rfl
theorem r_307_4 : xT.1 307 4 = some (.ifCond .ge 7, ((11, 0), ([], []))) := (kT_307 4).trans rfl
theorem r_307_7 : xT.1 307 7 = some (.iconst 1, ((0, 0), ([.int 1], []))) := (kT_307 7).trans rfl
theorem r_307_8 : xT.1 307 8 = some (.goto 4, ((12, 0), ([], []))) := (kT_307 8).trans rfl
theorem r_307_11 : xT.1 307 11 = some (.iconst 0, ((0, 0), ([.int 0], []))) := (kT_307 11).trans rfl
theorem r_307_12 : xT.1 307 12 = some (.istore 6, ((0, 0), ([], []))) := (kT_307 12).trans rfl
theorem r_307_14 : xT.1 307 14 = some (.iload 6, ((0, 0), ([], []))) := (kT_307 14).trans rfl
theorem r_307_16 : xT.1 307 16 = some (.ifCond .ne 6, ((22, 0), ([], []))) := (kT_307 16).trans rfl
theorem r_307_19 : xT.1 307 19 = some (.iload_n 0, ((0, 0), ([], []))) := (kT_307 19).trans rfl
theorem r_307_20 : xT.1 307 20 = some (.ineg, ((0, 0), ([], []))) := (kT_307 20).trans rfl
theorem r_307_21 : xT.1 307 21 = some (.istore_n 0, ((0, 0), ([], []))) := (kT_307 21).trans rfl
theorem r_307_22 : xT.1 307 22 = some (.iload_n 0, ((0, 0), ([], []))) := (kT_307 22).trans rfl
theorem r_307_23 : xT.1 307 23 = some (.bipush (-100), ((0, 0), ([.int (-100)], []))) := (kT_307 23).trans rfl
theorem r_307_25 : xT.1 307 25 = some (.if_icmp .gt 47, ((72, 0), ([], []))) := (kT_307 25).trans rfl
theorem r_307_28 : xT.1 307 28 = some (.iload_n 0, ((0, 0), ([], []))) := (kT_307 28).trans rfl
theorem r_307_29 : xT.1 307 29 = some (.bipush 100, ((0, 0), ([.int 100], []))) := (kT_307 29).trans rfl
theorem r_307_31 : xT.1 307 31 = some (.idiv, ((0, 0), ([], []))) := (kT_307 31).trans rfl
theorem r_307_32 : xT.1 307 32 = some (.istore_n 3, ((0, 0), ([], []))) := (kT_307 32).trans rfl
theorem r_307_33 : xT.1 307 33 = some (.iload_n 3, ((0, 0), ([], []))) := (kT_307 33).trans rfl
theorem r_307_34 : xT.1 307 34 = some (.bipush 100, ((0, 0), ([.int 100], []))) := (kT_307 34).trans rfl
theorem r_307_36 : xT.1 307 36 = some (.imul, ((0, 0), ([], []))) := (kT_307 36).trans rfl
theorem r_307_37 : xT.1 307 37 = some (.iload_n 0, ((0, 0), ([], []))) := (kT_307 37).trans rfl
theorem r_307_38 : xT.1 307 38 = some (.isub, ((0, 0), ([], []))) := (kT_307 38).trans rfl
theorem r_307_39 : xT.1 307 39 = some (.istore 4, ((0, 0), ([], []))) := (kT_307 39).trans rfl
theorem r_307_41 : xT.1 307 41 = some (.iload_n 3, ((0, 0), ([], []))) := (kT_307 41).trans rfl
theorem r_307_42 : xT.1 307 42 = some (.istore_n 0, ((0, 0), ([], []))) := (kT_307 42).trans rfl
theorem r_307_43 : xT.1 307 43 = some (.aload_n 2, ((0, 0), ([], []))) := (kT_307 43).trans rfl
theorem r_307_44 : xT.1 307 44 = some (.iinc 5 (-1), ((0, 0), ([.int (-1)], []))) := (kT_307 44).trans rfl
theorem r_307_47 : xT.1 307 47 = some (.iload 5, ((0, 0), ([], []))) := (kT_307 47).trans rfl
theorem r_307_49 : xT.1 307 49 = some (.getstatic 83, ((0, 0), ([.ref 22], []))) := (kT_307 49).trans rfl
theorem r_307_52 : xT.1 307 52 = some (.iload 4, ((0, 0), ([], []))) := (kT_307 52).trans rfl
theorem r_307_54 : xT.1 307 54 = some (.baload, ((0, 0), ([], []))) := (kT_307 54).trans rfl
theorem r_307_55 : xT.1 307 55 = some (.bastore, ((0, 0), ([], []))) := (kT_307 55).trans rfl
theorem r_307_56 : xT.1 307 56 = some (.aload_n 2, ((0, 0), ([], []))) := (kT_307 56).trans rfl
theorem r_307_57 : xT.1 307 57 = some (.iinc 5 (-1), ((0, 0), ([.int (-1)], []))) := (kT_307 57).trans rfl
theorem r_307_60 : xT.1 307 60 = some (.iload 5, ((0, 0), ([], []))) := (kT_307 60).trans rfl
theorem r_307_62 : xT.1 307 62 = some (.getstatic 87, ((0, 0), ([.ref 23], []))) := (kT_307 62).trans rfl
theorem r_307_65 : xT.1 307 65 = some (.iload 4, ((0, 0), ([], []))) := (kT_307 65).trans rfl
theorem r_307_67 : xT.1 307 67 = some (.baload, ((0, 0), ([], []))) := (kT_307 67).trans rfl
theorem r_307_68 : xT.1 307 68 = some (.bastore, ((0, 0), ([], []))) := (kT_307 68).trans rfl
theorem r_307_69 : xT.1 307 69 = some (.goto (-47), ((22, 0), ([], []))) := (kT_307 69).trans rfl
theorem r_307_72 : xT.1 307 72 = some (.aload_n 2, ((0, 0), ([], []))) := (kT_307 72).trans rfl
theorem r_307_73 : xT.1 307 73 = some (.iinc 5 (-1), ((0, 0), ([.int (-1)], []))) := (kT_307 73).trans rfl
theorem r_307_76 : xT.1 307 76 = some (.iload 5, ((0, 0), ([], []))) := (kT_307 76).trans rfl
theorem r_307_78 : xT.1 307 78 = some (.getstatic 83, ((0, 0), ([.ref 22], []))) := (kT_307 78).trans rfl
theorem r_307_81 : xT.1 307 81 = some (.iload_n 0, ((0, 0), ([], []))) := (kT_307 81).trans rfl
theorem r_307_82 : xT.1 307 82 = some (.ineg, ((0, 0), ([], []))) := (kT_307 82).trans rfl
theorem r_307_83 : xT.1 307 83 = some (.baload, ((0, 0), ([], []))) := (kT_307 83).trans rfl
theorem r_307_84 : xT.1 307 84 = some (.bastore, ((0, 0), ([], []))) := (kT_307 84).trans rfl
theorem r_307_85 : xT.1 307 85 = some (.iload_n 0, ((0, 0), ([], []))) := (kT_307 85).trans rfl
theorem r_307_86 : xT.1 307 86 = some (.bipush (-9), ((0, 0), ([.int (-9)], []))) := (kT_307 86).trans rfl
theorem r_307_88 : xT.1 307 88 = some (.if_icmp .ge 16, ((104, 0), ([], []))) := (kT_307 88).trans rfl
theorem r_307_91 : xT.1 307 91 = some (.aload_n 2, ((0, 0), ([], []))) := (kT_307 91).trans rfl
theorem r_307_92 : xT.1 307 92 = some (.iinc 5 (-1), ((0, 0), ([.int (-1)], []))) := (kT_307 92).trans rfl
theorem r_307_95 : xT.1 307 95 = some (.iload 5, ((0, 0), ([], []))) := (kT_307 95).trans rfl
theorem r_307_97 : xT.1 307 97 = some (.getstatic 87, ((0, 0), ([.ref 23], []))) := (kT_307 97).trans rfl
theorem r_307_100 : xT.1 307 100 = some (.iload_n 0, ((0, 0), ([], []))) := (kT_307 100).trans rfl
theorem r_307_101 : xT.1 307 101 = some (.ineg, ((0, 0), ([], []))) := (kT_307 101).trans rfl
theorem r_307_102 : xT.1 307 102 = some (.baload, ((0, 0), ([], []))) := (kT_307 102).trans rfl
theorem r_307_103 : xT.1 307 103 = some (.bastore, ((0, 0), ([], []))) := (kT_307 103).trans rfl
theorem r_307_104 : xT.1 307 104 = some (.iload 6, ((0, 0), ([], []))) := (kT_307 104).trans rfl
theorem r_307_106 : xT.1 307 106 = some (.ifCond .eq 12, ((118, 0), ([], []))) := (kT_307 106).trans rfl
theorem r_307_109 : xT.1 307 109 = some (.aload_n 2, ((0, 0), ([], []))) := (kT_307 109).trans rfl
theorem r_307_110 : xT.1 307 110 = some (.iinc 5 (-1), ((0, 0), ([.int (-1)], []))) := (kT_307 110).trans rfl
theorem r_307_113 : xT.1 307 113 = some (.iload 5, ((0, 0), ([], []))) := (kT_307 113).trans rfl
theorem r_307_115 : xT.1 307 115 = some (.bipush 45, ((0, 0), ([.int 45], []))) := (kT_307 115).trans rfl
theorem r_307_117 : xT.1 307 117 = some (.bastore, ((0, 0), ([], []))) := (kT_307 117).trans rfl
theorem r_307_118 : xT.1 307 118 = some (.iload 5, ((0, 0), ([], []))) := (kT_307 118).trans rfl
theorem r_307_120 : xT.1 307 120 = some (.ireturn, ((0, 0), ([], []))) := (kT_307 120).trans rfl
theorem kT_308 (pc : Nat) : xT.1 308 pc = xfind k_308 pc := rfl
theorem r_308_0 : xT.1 308 0 = some (.iconst 1, ((0, 0), ([.int 1], []))) := (kT_308 0).trans rfl
theorem r_308_1 : xT.1 308 1 = some (.istore_n 1, ((0, 0), ([], []))) := (kT_308 1).trans rfl
theorem r_308_2 : xT.1 308 2 = some (.iload_n 0, ((0, 0), ([], []))) := (kT_308 2).trans rfl
theorem r_308_3 : xT.1 308 3 = some (.ifCond .lt 8, ((11, 0), ([], []))) := (kT_308 3).trans rfl
theorem r_308_6 : xT.1 308 6 = some (.iconst 0, ((0, 0), ([.int 0], []))) := (kT_308 6).trans rfl
theorem r_308_7 : xT.1 308 7 = some (.istore_n 1, ((0, 0), ([], []))) := (kT_308 7).trans rfl
theorem r_308_8 : xT.1 308 8 = some (.iload_n 0, ((0, 0), ([], []))) := (kT_308 8).trans rfl
theorem r_308_9 : xT.1 308 9 = some (.ineg, ((0, 0), ([], []))) := (kT_308 9).trans rfl
theorem r_308_10 : xT.1 308 10 = some (.istore_n 0, ((0, 0), ([], []))) := (kT_308 10).trans rfl
theorem r_308_11 : xT.1 308 11 = some (.bipush (-10), ((0, 0), ([.int (-10)], []))) := (kT_308 11).trans rfl
theorem r_308_13 : xT.1 308 13 = some (.istore_n 2, ((0, 0), ([], []))) := (kT_308 13).trans rfl
theorem r_308_14 : xT.1 308 14 = some (.iconst 1, ((0, 0), ([.int 1], []))) := (kT_308 14).trans rfl
theorem r_308_15 : xT.1 308 15 = some (.istore_n 3, ((0, 0), ([], []))) := (kT_308 15).trans rfl
theorem r_308_16 : xT.1 308 16 = some (.iload_n 3, ((0, 0), ([], []))) := (kT_308 16).trans rfl
theorem r_308_17 : xT.1 308 17 = some (.bipush 10, ((0, 0), ([.int 10], []))) := (kT_308 17).trans rfl
theorem r_308_19 : xT.1 308 19 = some (.if_icmp .ge 23, ((42, 0), ([], []))) := (kT_308 19).trans rfl
theorem r_308_22 : xT.1 308 22 = some (.iload_n 0, ((0, 0), ([], []))) := (kT_308 22).trans rfl
theorem r_308_23 : xT.1 308 23 = some (.iload_n 2, ((0, 0), ([], []))) := (kT_308 23).trans rfl
theorem r_308_24 : xT.1 308 24 = some (.if_icmp .le 7, ((31, 0), ([], []))) := (kT_308 24).trans rfl
theorem r_308_27 : xT.1 308 27 = some (.iload_n 3, ((0, 0), ([], []))) := (kT_308 27).trans rfl
theorem r_308_28 : xT.1 308 28 = some (.iload_n 1, ((0, 0), ([], []))) := (kT_308 28).trans rfl
theorem r_308_29 : xT.1 308 29 = some (.iadd, ((0, 0), ([], []))) := (kT_308 29).trans rfl
theorem r_308_30 : xT.1 308 30 = some (.ireturn, ((0, 0), ([], []))) := (kT_308 30).trans rfl
theorem r_308_31 : xT.1 308 31 = some (.bipush 10, ((0, 0), ([.int 10], []))) := (kT_308 31).trans rfl
theorem r_308_33 : xT.1 308 33 = some (.iload_n 2, ((0, 0), ([], []))) := (kT_308 33).trans rfl
theorem r_308_34 : xT.1 308 34 = some (.imul, ((0, 0), ([], []))) := (kT_308 34).trans rfl
theorem r_308_35 : xT.1 308 35 = some (.istore_n 2, ((0, 0), ([], []))) := (kT_308 35).trans rfl
theorem r_308_36 : xT.1 308 36 = some (.iinc 3 1, ((0, 0), ([.int (1)], []))) := (kT_308 36).trans rfl
theorem r_308_39 : xT.1 308 39 = some (.goto (-23), ((16, 0), ([], []))) := (kT_308 39).trans rfl
theorem r_308_42 : xT.1 308 42 = some (.bipush 10, ((0, 0), ([.int 10], []))) := (kT_308 42).trans rfl
theorem r_308_44 : xT.1 308 44 = some (.iload_n 1, ((0, 0), ([], []))) := (kT_308 44).trans rfl
theorem r_308_45 : xT.1 308 45 = some (.iadd, ((0, 0), ([], []))) := (kT_308 45).trans rfl
theorem r_308_46 : xT.1 308 46 = some (.ireturn, ((0, 0), ([], []))) := (kT_308 46).trans rfl
theorem kT_309 (pc : Nat) : xT.1 309 pc = xfind k_309 pc := rfl
theorem r_309_0 : xT.1 309 0 = some (.iload_n 0, ((0, 0), ([], []))) := (kT_309 0).trans rfl
theorem r_309_1 : xT.1 309 1 = some (.sipush 255, ((0, 0), ([.int 255], []))) := (kT_309 1).trans rfl
theorem r_309_4 : xT.1 309 4 = some (.if_icmp .gt 7, ((11, 0), ([], []))) := (kT_309 4).trans rfl
theorem r_309_7 : xT.1 309 7 = some (.iconst 1, ((0, 0), ([.int 1], []))) := (kT_309 7).trans rfl
theorem r_309_8 : xT.1 309 8 = some (.goto 4, ((12, 0), ([], []))) := (kT_309 8).trans rfl
theorem r_309_11 : xT.1 309 11 = some (.iconst 0, ((0, 0), ([.int 0], []))) := (kT_309 11).trans rfl
theorem r_309_12 : xT.1 309 12 = some (.ireturn, ((0, 0), ([], []))) := (kT_309 12).trans rfl
theorem kT_310 (pc : Nat) : xT.1 310 pc = xfind k_310 pc := rfl
theorem r_310_0 : xT.1 310 0 = some (.iload_n 1, ((0, 0), ([], []))) := (kT_310 0).trans rfl
theorem r_310_1 : xT.1 310 1 = some (.aload_n 0, ((0, 0), ([], []))) := (kT_310 1).trans rfl
theorem r_310_2 : xT.1 310 2 = some (.arraylength, ((0, 0), ([], []))) := (kT_310 2).trans rfl
theorem r_310_3 : xT.1 310 3 = some (.if_icmp .ne 11, ((14, 0), ([], []))) := (kT_310 3).trans rfl
theorem r_310_6 : xT.1 310 6 = some (.aload_n 0, ((0, 0), ([], []))) := (kT_310 6).trans rfl
theorem r_310_13 : xT.1 310 13 = some (.areturn, ((0, 0), ([], []))) := (kT_310 13).trans rfl
theorem r_310_14 : xT.1 310 14 = some (.iload_n 1, ((0, 0), ([], []))) := (kT_310 14).trans rfl
theorem r_310_15 : xT.1 310 15 = some (.newarray .byte, ((0, 0), ([], []))) := (kT_310 15).trans rfl
theorem r_310_17 : xT.1 310 17 = some (.astore_n 2, ((0, 0), ([], []))) := (kT_310 17).trans rfl
theorem r_310_18 : xT.1 310 18 = some (.aload_n 0, ((0, 0), ([], []))) := (kT_310 18).trans rfl
theorem r_310_19 : xT.1 310 19 = some (.iconst 0, ((0, 0), ([.int 0], []))) := (kT_310 19).trans rfl
theorem r_310_20 : xT.1 310 20 = some (.aload_n 2, ((0, 0), ([], []))) := (kT_310 20).trans rfl
theorem r_310_21 : xT.1 310 21 = some (.iconst 0, ((0, 0), ([.int 0], []))) := (kT_310 21).trans rfl
theorem r_310_22 : xT.1 310 22 = some (.aload_n 0, ((0, 0), ([], []))) := (kT_310 22).trans rfl
theorem r_310_23 : xT.1 310 23 = some (.arraylength, ((0, 0), ([], []))) := (kT_310 23).trans rfl
theorem r_310_24 : xT.1 310 24 = some (.iload_n 1, ((0, 0), ([], []))) := (kT_310 24).trans rfl
theorem r_310_25 : xT.1 310 25 = some (.invokestatic 304, ((21, 2), ([], [4]))) := (kT_310 25).trans rfl
theorem r_310_28 : xT.1 310 28 = some (.invokestatic 150, ((0, 5), ([], [4]))) := (kT_310 28).trans rfl
theorem r_310_31 : xT.1 310 31 = some (.aload_n 2, ((0, 0), ([], []))) := (kT_310 31).trans rfl
theorem r_310_32 : xT.1 310 32 = some (.areturn, ((0, 0), ([], []))) := (kT_310 32).trans rfl
theorem kT_311 (pc : Nat) : xT.1 311 pc = xfind k_311 pc := rfl
theorem r_311_0 : xT.1 311 0 = some (.iload_n 0, ((0, 0), ([], []))) := (kT_311 0).trans rfl
theorem r_311_1 : xT.1 311 1 = some (.iload_n 1, ((0, 0), ([], []))) := (kT_311 1).trans rfl
theorem r_311_2 : xT.1 311 2 = some (.iload_n 2, ((0, 0), ([], []))) := (kT_311 2).trans rfl
theorem r_311_3 : xT.1 311 3 = some (.invokestatic 194, ((20, 2), ([], [4]))) := (kT_311 3).trans rfl
theorem r_311_6 : xT.1 311 6 = some (.iadd, ((0, 0), ([], []))) := (kT_311 6).trans rfl
theorem r_311_7 : xT.1 311 7 = some (.istore_n 3, ((0, 0), ([], []))) := (kT_311 7).trans rfl
theorem r_311_8 : xT.1 311 8 = some (.iconst 0, ((0, 0), ([.int 0], []))) := (kT_311 8).trans rfl
theorem r_311_9 : xT.1 311 9 = some (.iload_n 3, ((0, 0), ([], []))) := (kT_311 9).trans rfl
theorem r_311_10 : xT.1 311 10 = some (.if_icmp .ge 11, ((21, 0), ([], []))) := (kT_311 10).trans rfl
theorem r_311_13 : xT.1 311 13 = some (.iload_n 3, ((0, 0), ([], []))) := (kT_311 13).trans rfl
theorem r_311_14 : xT.1 311 14 = some (.ldc 200, ((0, 0), ([.int (2147483639)], []))) := (kT_311 14).trans rfl
theorem r_311_16 : xT.1 311 16 = some (.if_icmp .gt 5, ((21, 0), ([], []))) := (kT_311 16).trans rfl
theorem r_311_19 : xT.1 311 19 = some (.iload_n 3, ((0, 0), ([], []))) := (kT_311 19).trans rfl
theorem r_311_20 : xT.1 311 20 = some (.ireturn, ((0, 0), ([], []))) := (kT_311 20).trans rfl
theorem r_311_21 : xT.1 311 21 = some (.iload_n 0, ((0, 0), ([], []))) := (kT_311 21).trans rfl
theorem r_311_22 : xT.1 311 22 = some (.iload_n 1, ((0, 0), ([], []))) := (kT_311 22).trans rfl
theorem r_311_26 : xT.1 311 26 = some (.ireturn, ((0, 0), ([], []))) := (kT_311 26).trans rfl
theorem kT_312 (pc : Nat) : xT.1 312 pc = xfind k_312 pc := rfl
theorem r_312_0 : xT.1 312 0 = some (.aload_n 0, ((0, 0), ([], []))) := (kT_312 0).trans rfl
theorem r_312_1 : xT.1 312 1 = some (.getfield 9, ((12, 1), ([], [4]))) := (kT_312 1).trans rfl
theorem r_312_4 : xT.1 312 4 = some (.arraylength, ((0, 0), ([], []))) := (kT_312 4).trans rfl
theorem r_312_5 : xT.1 312 5 = some (.aload_n 0, ((0, 0), ([], []))) := (kT_312 5).trans rfl
theorem r_312_6 : xT.1 312 6 = some (.invokevirtual 335, ((314, 1), ([], [0]))) := (kT_312 6).trans rfl
theorem r_312_9 : xT.1 312 9 = some (.ishr, ((0, 0), ([], []))) := (kT_312 9).trans rfl
theorem r_312_10 : xT.1 312 10 = some (.ireturn, ((0, 0), ([], []))) := (kT_312 10).trans rfl
theorem kT_313 (pc : Nat) : xT.1 313 pc = xfind k_313 pc := rfl
theorem r_313_0 : xT.1 313 0 = some (.aload_n 0, ((0, 0), ([], []))) := (kT_313 0).trans rfl
theorem r_313_1 : xT.1 313 1 = some (.invokevirtual 492, ((315, 1), ([], [0]))) := (kT_313 1).trans rfl
theorem r_313_4 : xT.1 313 4 = some (.ifCond .eq 12, ((16, 0), ([], []))) := (kT_313 4).trans rfl
theorem r_313_7 : xT.1 313 7 = some (.aload_n 0, ((0, 0), ([], []))) := (kT_313 7).trans rfl
theorem r_313_8 : xT.1 313 8 = some (.getfield 9, ((12, 1), ([], [4]))) := (kT_313 8).trans rfl
theorem r_313_11 : xT.1 313 11 = some (.iload_n 1, ((0, 0), ([], []))) := (kT_313 11).trans rfl
theorem r_313_12 : xT.1 313 12 = some (.invokestatic 495, ((316, 2), ([], [1]))) := (kT_313 12).trans rfl
theorem r_313_15 : xT.1 313 15 = some (.ireturn, ((0, 0), ([], []))) := (kT_313 15).trans rfl
theorem r_313_16 : xT.1 313 16 = some (.aload_n 0, ((0, 0), ([], []))) := (kT_313 16).trans rfl
theorem r_313_17 : xT.1 313 17 = some (.getfield 9, ((12, 1), ([], [4]))) := (kT_313 17).trans rfl
theorem r_313_20 : xT.1 313 20 = some (.iload_n 1, ((0, 0), ([], []))) := (kT_313 20).trans rfl
theorem r_313_24 : xT.1 313 24 = some (.ireturn, ((0, 0), ([], []))) := (kT_313 24).trans rfl
theorem kT_314 (pc : Nat) : xT.1 314 pc = xfind k_314 pc := rfl
theorem r_314_0 : xT.1 314 0 = some (.getstatic 38, ((0, 0), ([.int 1], []))) := (kT_314 0).trans rfl
theorem r_314_3 : xT.1 314 3 = some (.ifCond .eq 10, ((13, 0), ([], []))) := (kT_314 3).trans rfl
theorem r_314_6 : xT.1 314 6 = some (.aload_n 0, ((0, 0), ([], []))) := (kT_314 6).trans rfl
theorem r_314_7 : xT.1 314 7 = some (.getfield 15, ((13, 1), ([], [4]))) := (kT_314 7).trans rfl
theorem r_314_10 : xT.1 314 10 = some (.goto 4, ((14, 0), ([], []))) := (kT_314 10).trans rfl
theorem r_314_13 : xT.1 314 13 = some (.iconst 1, ((0, 0), ([.int 1], []))) := (kT_314 13).trans rfl
theorem r_314_14 : xT.1 314 14 = some (.ireturn, ((0, 0), ([], []))) := (kT_314 14).trans rfl
theorem kT_315 (pc : Nat) : xT.1 315 pc = xfind k_315 pc := rfl
theorem r_315_0 : xT.1 315 0 = some (.getstatic 38, ((0, 0), ([.int 1], []))) := (kT_315 0).trans rfl
theorem r_315_3 : xT.1 315 3 = some (.ifCond .eq 14, ((17, 0), ([], []))) := (kT_315 3).trans rfl
theorem r_315_6 : xT.1 315 6 = some (.aload_n 0, ((0, 0), ([], []))) := (kT_315 6).trans rfl
theorem r_315_7 : xT.1 315 7 = some (.getfield 15, ((13, 1), ([], [4]))) := (kT_315 7).trans rfl
theorem r_315_10 : xT.1 315 10 = some (.ifCond .ne 7, ((17, 0), ([], []))) := (kT_315 10).trans rfl
theorem r_315_13 : xT.1 315 13 = some (.iconst 1, ((0, 0), ([.int 1], []))) := (kT_315 13).trans rfl
theorem r_315_14 : xT.1 315 14 = some (.goto 4, ((18, 0), ([], []))) := (kT_315 14).trans rfl
theorem r_315_17 : xT.1 315 17 = some (.iconst 0, ((0, 0), ([.int 0], []))) := (kT_315 17).trans rfl
theorem r_315_18 : xT.1 315 18 = some (.ireturn, ((0, 0), ([], []))) := (kT_315 18).trans rfl
theorem kT_316 (pc : Nat) : xT.1 316 pc = xfind k_316 pc := rfl
theorem r_316_0 : xT.1 316 0 = some (.iload_n 1, ((0, 0), ([], []))) := (kT_316 0).trans rfl
theorem r_316_1 : xT.1 316 1 = some (.aload_n 0, ((0, 0), ([], []))) := (kT_316 1).trans rfl
theorem r_316_2 : xT.1 316 2 = some (.arraylength, ((0, 0), ([], []))) := (kT_316 2).trans rfl
theorem r_316_3 : xT.1 316 3 = some (.invokestatic 9, ((4, 2), ([], [4]))) := (kT_316 3).trans rfl
theorem r_316_6 : xT.1 316 6 = some (.aload_n 0, ((0, 0), ([], []))) := (kT_316 6).trans rfl
theorem r_316_7 : xT.1 316 7 = some (.iload_n 1, ((0, 0), ([], []))) := (kT_316 7).trans rfl
theorem r_316_8 : xT.1 316 8 = some (.baload, ((0, 0), ([], []))) := (kT_316 8).trans rfl
theorem r_316_9 : xT.1 316 9 = some (.sipush 255, ((0, 0), ([.int 255], []))) := (kT_316 9).trans rfl
theorem r_316_12 : xT.1 316 12 = some (.iand, ((0, 0), ([], []))) := (kT_316 12).trans rfl
theorem r_316_13 : xT.1 316 13 = some (.i2c, ((0, 0), ([], []))) := (kT_316 13).trans rfl
theorem r_316_14 : xT.1 316 14 = some (.ireturn, ((0, 0), ([], []))) := (kT_316 14).trans rfl
