/-! the rows of the tables, one by one -/
theorem kT_315 (pc : Nat) : xT.1 315 pc = xfind k_315 pc := rfl
theorem r_315_0 : xT.1 315 0 = some (.getstatic 38, ((0, 0), ([.int 1], []))) := (kT_315 0).trans rfl
theorem r_315_3 : xT.1 315 3 = some (.ifCond .eq 14, ((17, 0), ([], []))) := (kT_315 3).trans rfl
theorem r_315_6 : xT.1 315 6 = some (.aload_n 0, ((0, 0), ([], []))) := (kT_315 6).trans rfl
theorem r_315_7 : xT.1 315 7 = some (.getfield 15, ((13, 1), ([], [4]))) := (kT_315 7).trans rfl
theorem r_315_10 : xT.1 315 10 = some (.ifCond .ne 7, ((17, 0), ([], []))) := (kT_315 10).trans rfl
theorem r_315_13 : xT.1 315 13 = some (.iconst 1, ((0, 0), ([.int 1], []))) := (kT_315 13).trans rfl
theorem r_315_14 : xT.1 315 14 = some (.goto 4, ((18, 0), ([], []))) := (kT_315 14).trans rfl
theorem r_315_17 : xT.1 315 17 = some (.iconst 0, ((0, 0), ([.int 0], []))) := (kT_315 17).trans rfl
theorem r_315_18 : xT.1 315 18 = some (.ireturn, ((0, 0), ([], []))) := (kT_315 18).trans rfl
theorem kT_316 (pc : Nat) : xT.1 316 pc = xfind k_316 pc := rfl
theorem r_316_0 : xT.1 316 0 = some (.iload_n 1, ((0, 0), ([], []))) := (kT_316 0).trans rfl
theorem r_316_1 : xT.1 316 1 = some (.aload_n 0, ((0, 0), ([], []))) := (kT_316 1).trans rfl
theorem r_316_2 : xT.1 316 2 = some (.arraylength, ((0, 0), ([], []))) := (kT_316 2).trans rfl
theorem r_316_3 : xT.1 316 3 = some (.invokestatic 9, ((4, 2), ([], [4]))) := (kT_316 3).trans rfl
theorem r_316_6 : xT.1 316 6 = some (.aload_n 0, ((0, 0), ([], []))) := (kT_316 6).trans rfl
theorem r_316_7 : xT.1 316 7 = some (.iload_n 1, ((0, 0), ([], []))) := (kT_316 7).trans rfl
theorem r_316_8 : xT.1 316 8 = some (.baload, ((0, 0), ([], []))) := (kT_316 8).trans rfl
theorem r_316_9 : xT.1 316 9 = some (.sipush 255, ((0, 0), ([.int 255], []))) := (kT_316 9).trans rfl
theorem r_316_12 : xT.1 316 12 = some (.iand, ((0, 0), ([], []))) := (kT_316 12).trans rfl
theorem r_316_13 : xT.1 316 13 = some (.i2c, ((0, 0), ([], []))) := (kT_316 13).trans rfl
theorem r_316_14 : xT.1 316 14 = some (.ireturn, ((0, 0), ([], []))) := (kT_316 14).trans rfl
theorem kT_317 (pc : Nat) : xT.1 317 pc = xfind k_317 pc := rfl
theorem r_317_0 : xT.1 317 0 = some (.aload_n 0, ((0, 0), ([], []))) := (kT_317 0).trans rfl
theorem r_317_1 : xT.1 317 1 = some (.aload_n 1, ((0, 0), ([], []))) := (kT_317 1).trans rfl
theorem r_317_2 : xT.1 317 2 = some (.invokespecial 29, ((319, 2), ([], [3]))) := (kT_317 2).trans rfl
theorem r_317_5 : xT.1 317 5 = some (.pop, ((0, 0), ([], []))) := (kT_317 5).trans rfl
theorem r_317_6 : xT.1 317 6 = some (.aload_n 0, ((0, 0), ([], []))) := (kT_317 6).trans rfl
theorem r_317_7 : xT.1 317 7 = some (.areturn, ((0, 0), ([], []))) := (kT_317 7).trans rfl
theorem kT_318 (pc : Nat) : xT.1 318 pc = xfind k_318 pc := rfl
theorem r_318_0 : xT.1 318 0 = some (.new 18, ((11, 4), ([.null, .int 0, .int 0, .int 0], []))) := (kT_318 0).trans rfl
theorem r_318_3 : xT.1 318 3 = some (.dup, ((0, 0), ([], []))) := (kT_318 3).trans rfl
theorem r_318_4 : xT.1 318 4 = some (.aload_n 0, ((0, 0), ([], []))) := (kT_318 4).trans rfl
theorem r_318_5 : xT.1 318 5 = some (.invokespecial 137, ((323, 2), ([], [2]))) := (kT_318 5).trans rfl
theorem r_318_8 : xT.1 318 8 = some (.areturn, ((0, 0), ([], []))) := (kT_318 8).trans rfl
theorem kT_319 (pc : Nat) : xT.1 319 pc = xfind k_319 pc := rfl
theorem r_319_0 : xT.1 319 0 = some (.aload_n 1, ((0, 0), ([], []))) := (kT_319 0).trans rfl
theorem r_319_1 : xT.1 319 1 = some (.ifnonnull 8, ((9, 0), ([], []))) := (kT_319 1).trans rfl
theorem r_319_4 : xT.1 319 4 = some (.aload_n 0, ((0, 0), ([], []))) := (kT_319 4).trans rfl
theorem r_319_8 : xT.1 319 8 = some (.areturn, ((0, 0), ([], []))) := (kT_319 8).trans rfl
theorem r_319_9 : xT.1 319 9 = some (.aload_n 1, ((0, 0), ([], []))) := (kT_319 9).trans rfl
theorem r_319_10 : xT.1 319 10 = some (.invokevirtual 32, ((312, 1), ([], [0]))) := (kT_319 10).trans rfl
theorem r_319_13 : xT.1 319 13 = some (.istore_n 2, ((0, 0), ([], []))) := (kT_319 13).trans rfl
theorem r_319_14 : xT.1 319 14 = some (.aload_n 0, ((0, 0), ([], []))) := (kT_319 14).trans rfl
theorem r_319_15 : xT.1 319 15 = some (.aload_n 0, ((0, 0), ([], []))) := (kT_319 15).trans rfl
theorem r_319_16 : xT.1 319 16 = some (.getfield 79, ((10, 3), ([], []))) := (kT_319 16).trans rfl
theorem r_319_19 : xT.1 319 19 = some (.iload_n 2, ((0, 0), ([], []))) := (kT_319 19).trans rfl
theorem r_319_20 : xT.1 319 20 = some (.iadd, ((0, 0), ([], []))) := (kT_319 20).trans rfl
theorem r_319_21 : xT.1 319 21 = some (.invokevirtual 100, ((300, 2), ([], [0]))) := (kT_319 21).trans rfl
theorem r_319_24 : xT.1 319 24 = some (.aload_n 0, ((0, 0), ([], []))) := (kT_319 24).trans rfl
theorem r_319_25 : xT.1 319 25 = some (.aload_n 0, ((0, 0), ([], []))) := (kT_319 25).trans rfl
theorem r_319_26 : xT.1 319 26 = some (.getfield 79, ((10, 3), ([], []))) := (kT_319 26).trans rfl
theorem r_319_29 : xT.1 319 29 = some (.aload_n 1, ((0, 0), ([], []))) := (kT_319 29).trans rfl
theorem r_319_30 : xT.1 319 30 = some (.invokevirtual 208, ((320, 3), ([], [0]))) := (kT_319 30).trans rfl
theorem r_319_33 : xT.1 319 33 = some (.aload_n 0, ((0, 0), ([], []))) := (kT_319 33).trans rfl
theorem r_319_34 : xT.1 319 34 = some (.dup, ((0, 0), ([], []))) := (kT_319 34).trans rfl
theorem r_319_35 : xT.1 319 35 = some (.getfield 79, ((10, 3), ([], []))) := (kT_319 35).trans rfl
theorem r_319_38 : xT.1 319 38 = some (.iload_n 2, ((0, 0), ([], []))) := (kT_319 38).trans rfl
theorem r_319_39 : xT.1 319 39 = some (.iadd, ((0, 0), ([], []))) := (kT_319 39).trans rfl
theorem r_319_40 : xT.1 319 40 = some (.putfield 79, ((10, 3), ([], [0]))) := (kT_319 40).trans rfl
theorem r_319_43 : xT.1 319 43 = some (.aload_n 0, ((0, 0), ([], []))) := (kT_319 43).trans rfl
theorem r_319_44 : xT.1 319 44 = some (.areturn, ((0, 0), ([], []))) := (kT_319 44).trans rfl
theorem kT_320 (pc : Nat) : xT.1 320 pc = xfind k_320 pc := rfl
theorem r_320_0 : xT.1 320 0 = some (.aload_n 0, ((0, 0), ([], []))) := (kT_320 0).trans rfl
theorem r_320_1 : xT.1 320 1 = some (.aload_n 2, ((0, 0), ([], []))) := (kT_320 1).trans rfl
theorem r_320_2 : xT.1 320 2 = some (.invokevirtual 397, ((321, 2), ([], [0]))) := (kT_320 2).trans rfl
theorem r_320_5 : xT.1 320 5 = some (.aload_n 2, ((0, 0), ([], []))) := (kT_320 5).trans rfl
theorem r_320_6 : xT.1 320 6 = some (.aload_n 0, ((0, 0), ([], []))) := (kT_320 6).trans rfl
theorem r_320_7 : xT.1 320 7 = some (.getfield 15, ((10, 0), ([], []))) := (kT_320 7).trans rfl
theorem r_320_10 : xT.1 320 10 = some (.iload_n 1, ((0, 0), ([], []))) := (kT_320 10).trans rfl
theorem r_320_11 : xT.1 320 11 = some (.aload_n 0, ((0, 0), ([], []))) := (kT_320 11).trans rfl
theorem r_320_12 : xT.1 320 12 = some (.getfield 22, ((10, 1), ([], []))) := (kT_320 12).trans rfl
theorem r_320_15 : xT.1 320 15 = some (.invokevirtual 399, ((325, 4), ([], [0]))) := (kT_320 15).trans rfl
theorem r_320_18 : xT.1 320 18 = some (.return_, ((0, 0), ([], []))) := (kT_320 18).trans rfl
theorem kT_321 (pc : Nat) : xT.1 321 pc = xfind k_321 pc := rfl
theorem r_321_0 : xT.1 321 0 = some (.getstatic 18, ((0, 0), ([.int 1], []))) := (kT_321 0).trans rfl
theorem r_321_3 : xT.1 321 3 = some (.ifCond .eq 18, ((21, 0), ([], []))) := (kT_321 3).trans rfl
theorem r_321_6 : xT.1 321 6 = some (.aload_n 0, ((0, 0), ([], []))) := (kT_321 6).trans rfl
theorem r_321_7 : xT.1 321 7 = some (.getfield 22, ((10, 1), ([], []))) := (kT_321 7).trans rfl
theorem r_321_10 : xT.1 321 10 = some (.aload_n 1, ((0, 0), ([], []))) := (kT_321 10).trans rfl
theorem r_321_11 : xT.1 321 11 = some (.invokevirtual 40, ((314, 1), ([], [0]))) := (kT_321 11).trans rfl
theorem r_321_14 : xT.1 321 14 = some (.if_icmp .eq 7, ((21, 0), ([], []))) := (kT_321 14).trans rfl
theorem r_321_17 : xT.1 321 17 = some (.aload_n 0, ((0, 0), ([], []))) := (kT_321 17).trans rfl
theorem r_321_21 : xT.1 321 21 = some (.return_, ((0, 0), ([], []))) := (kT_321 21).trans rfl
theorem kT_322 (pc : Nat) : xT.1 322 pc = xfind k_322 pc := rfl
theorem r_322_0 : xT.1 322 0 = some (.aload_n 0, ((0, 0), ([], []))) := (kT_322 0).trans rfl
theorem r_322_1 : xT.1 322 1 = some (.getfield 15, ((10, 0), ([], []))) := (kT_322 1).trans rfl
theorem r_322_4 : xT.1 322 4 = some (.areturn, ((0, 0), ([], []))) := (kT_322 4).trans rfl
theorem kT_323 (pc : Nat) : xT.1 323 pc = xfind k_323 pc := rfl
theorem r_323_0 : xT.1 323 0 = some (.aload_n 0, ((0, 0), ([], []))) := (kT_323 0).trans rfl
theorem r_323_1 : xT.1 323 1 = some (.aload_n 1, ((0, 0), ([], []))) := (kT_323 1).trans rfl
theorem r_323_2 : xT.1 323 2 = some (.aconst_null, ((0, 0), ([], []))) := (kT_323 2).trans rfl
theorem r_323_3 : xT.1 323 3 = some (.invokespecial 489, ((324, 3), ([], [2]))) := (kT_323 3).trans rfl
theorem r_323_6 : xT.1 323 6 = some (.return_, ((0, 0), ([], []))) := (kT_323 6).trans rfl
theorem kT_324 (pc : Nat) : xT.1 324 pc = xfind k_324 pc := rfl
theorem r_324_0 : xT.1 324 0 = some (.aload_n 0, ((0, 0), ([], []))) := (kT_324 0).trans rfl
theorem r_324_1 : xT.1 324 1 = some (.invokespecial 1, ((0, 1), ([], [5]))) := (kT_324 1).trans rfl
theorem r_324_4 : xT.1 324 4 = some (.aload_n 1, ((0, 0), ([], []))) := (kT_324 4).trans rfl
theorem r_324_5 : xT.1 324 5 = some (.invokevirtual 552, ((322, 1), ([], [0]))) := (kT_324 5).trans rfl
theorem r_324_8 : xT.1 324 8 = some (.astore_n 3, ((0, 0), ([], []))) := (kT_324 8).trans rfl
theorem r_324_9 : xT.1 324 9 = some (.aload_n 1, ((0, 0), ([], []))) := (kT_324 9).trans rfl
theorem r_324_10 : xT.1 324 10 = some (.invokevirtual 549, ((14, 1), ([], [4]))) := (kT_324 10).trans rfl
theorem r_324_13 : xT.1 324 13 = some (.istore 4, ((0, 0), ([], []))) := (kT_324 13).trans rfl
theorem r_324_15 : xT.1 324 15 = some (.aload_n 1, ((0, 0), ([], []))) := (kT_324 15).trans rfl
theorem r_324_16 : xT.1 324 16 = some (.invokevirtual 1047, ((306, 1), ([], [0]))) := (kT_324 16).trans rfl
theorem r_324_19 : xT.1 324 19 = some (.ifCond .eq 22, ((41, 0), ([], []))) := (kT_324 19).trans rfl
theorem r_324_22 : xT.1 324 22 = some (.aload_n 0, ((0, 0), ([], []))) := (kT_324 22).trans rfl
theorem r_324_23 : xT.1 324 23 = some (.iconst 0, ((0, 0), ([.int 0], []))) := (kT_324 23).trans rfl
theorem r_324_24 : xT.1 324 24 = some (.putfield 15, ((11, 1), ([], [3]))) := (kT_324 24).trans rfl
theorem r_324_27 : xT.1 324 27 = some (.aload_n 0, ((0, 0), ([], []))) := (kT_324 27).trans rfl
theorem r_324_28 : xT.1 324 28 = some (.aload_n 3, ((0, 0), ([], []))) := (kT_324 28).trans rfl
theorem r_324_29 : xT.1 324 29 = some (.iconst 0, ((0, 0), ([.int 0], []))) := (kT_324 29).trans rfl
theorem r_324_30 : xT.1 324 30 = some (.iload 4, ((0, 0), ([], []))) := (kT_324 30).trans rfl
theorem r_324_32 : xT.1 324 32 = some (.invokestatic 54, ((326, 3), ([], [1]))) := (kT_324 32).trans rfl
theorem r_324_35 : xT.1 324 35 = some (.putfield 9, ((11, 0), ([], [2]))) := (kT_324 35).trans rfl
theorem r_324_38 : xT.1 324 38 = some (.goto 59, ((97, 0), ([], []))) := (kT_324 38).trans rfl
theorem r_324_41 : xT.1 324 41 = some (.getstatic 38, ((0, 0), ([.int 1], []))) := (kT_324 41).trans rfl
theorem r_324_44 : xT.1 324 44 = some (.ifCond .eq 35, ((79, 0), ([], []))) := (kT_324 44).trans rfl
theorem r_324_47 : xT.1 324 47 = some (.aload_n 1, ((0, 0), ([], []))) := (kT_324 47).trans rfl
theorem r_324_48 : xT.1 324 48 = some (.getfield 1048, ((10, 2), ([], []))) := (kT_324 48).trans rfl
theorem r_324_51 : xT.1 324 51 = some (.ifCond .eq 28, ((79, 0), ([], []))) := (kT_324 51).trans rfl
theorem r_324_54 : xT.1 324 54 = some (.aload_n 0, ((0, 0), ([], []))) := (kT_324 54).trans rfl
theorem r_324_55 : xT.1 324 55 = some (.aload_n 3, ((0, 0), ([], []))) := (kT_324 55).trans rfl
theorem r_324_56 : xT.1 324 56 = some (.iconst 0, ((0, 0), ([.int 0], []))) := (kT_324 56).trans rfl
theorem r_324_57 : xT.1 324 57 = some (.iload 4, ((0, 0), ([], []))) := (kT_324 57).trans rfl
theorem r_324_62 : xT.1 324 62 = some (.putfield 9, ((11, 0), ([], [2]))) := (kT_324 62).trans rfl
theorem r_324_65 : xT.1 324 65 = some (.aload_n 0, ((0, 0), ([], []))) := (kT_324 65).trans rfl
theorem r_324_66 : xT.1 324 66 = some (.aload_n 0, ((0, 0), ([], []))) := (kT_324 66).trans rfl
theorem r_324_67 : xT.1 324 67 = some (.getfield 9, ((12, 1), ([], [4]))) := (kT_324 67).trans rfl
theorem r_324_70 : xT.1 324 70 = some (.iload 4, ((0, 0), ([], []))) := (kT_324 70).trans rfl
theorem r_324_75 : xT.1 324 75 = some (.putfield 15, ((11, 1), ([], [3]))) := (kT_324 75).trans rfl
theorem r_324_78 : xT.1 324 78 = some (.return_, ((0, 0), ([], []))) := (kT_324 78).trans rfl
theorem r_324_79 : xT.1 324 79 = some (.aload_n 0, ((0, 0), ([], []))) := (kT_324 79).trans rfl
theorem r_324_80 : xT.1 324 80 = some (.iconst 1, ((0, 0), ([.int 1], []))) := (kT_324 80).trans rfl
theorem r_324_81 : xT.1 324 81 = some (.putfield 15, ((11, 1), ([], [3]))) := (kT_324 81).trans rfl
theorem r_324_84 : xT.1 324 84 = some (.aload_n 0, ((0, 0), ([], []))) := (kT_324 84).trans rfl
theorem r_324_85 : xT.1 324 85 = some (.aload_n 3, ((0, 0), ([], []))) := (kT_324 85).trans rfl
theorem r_324_86 : xT.1 324 86 = some (.iconst 0, ((0, 0), ([.int 0], []))) := (kT_324 86).trans rfl
theorem r_324_87 : xT.1 324 87 = some (.iload 4, ((0, 0), ([], []))) := (kT_324 87).trans rfl
theorem r_324_89 : xT.1 324 89 = some (.iconst 1, ((0, 0), ([.int 1], []))) := (kT_324 89).trans rfl
theorem r_324_90 : xT.1 324 90 = some (.ishl, ((0, 0), ([], []))) := (kT_324 90).trans rfl
theorem r_324_91 : xT.1 324 91 = some (.invokestatic 54, ((326, 3), ([], [1]))) := (kT_324 91).trans rfl
theorem r_324_94 : xT.1 324 94 = some (.putfield 9, ((11, 0), ([], [2]))) := (kT_324 94).trans rfl
theorem r_324_97 : xT.1 324 97 = some (.return_, ((0, 0), ([], []))) := (kT_324 97).trans rfl
theorem kT_325 (pc : Nat) : xT.1 325 pc = xfind k_325 pc := rfl
theorem r_325_0 : xT.1 325 0 = some (.aload_n 0, ((0, 0), ([], []))) := (kT_325 0).trans rfl
theorem r_325_1 : xT.1 325 1 = some (.invokevirtual 335, ((314, 1), ([], [0]))) := (kT_325 1).trans rfl
theorem r_325_4 : xT.1 325 4 = some (.iload_n 3, ((0, 0), ([], []))) := (kT_325 4).trans rfl
theorem r_325_5 : xT.1 325 5 = some (.if_icmp .ne 23, ((28, 0), ([], []))) := (kT_325 5).trans rfl
theorem r_325_8 : xT.1 325 8 = some (.aload_n 0, ((0, 0), ([], []))) := (kT_325 8).trans rfl
theorem r_325_9 : xT.1 325 9 = some (.getfield 9, ((12, 1), ([], [4]))) := (kT_325 9).trans rfl
theorem r_325_12 : xT.1 325 12 = some (.iconst 0, ((0, 0), ([.int 0], []))) := (kT_325 12).trans rfl
theorem r_325_13 : xT.1 325 13 = some (.aload_n 1, ((0, 0), ([], []))) := (kT_325 13).trans rfl
theorem r_325_14 : xT.1 325 14 = some (.iload_n 2, ((0, 0), ([], []))) := (kT_325 14).trans rfl
theorem r_325_15 : xT.1 325 15 = some (.iload_n 3, ((0, 0), ([], []))) := (kT_325 15).trans rfl
theorem r_325_16 : xT.1 325 16 = some (.ishl, ((0, 0), ([], []))) := (kT_325 16).trans rfl
theorem r_325_17 : xT.1 325 17 = some (.aload_n 0, ((0, 0), ([], []))) := (kT_325 17).trans rfl
theorem r_325_18 : xT.1 325 18 = some (.getfield 9, ((12, 1), ([], [4]))) := (kT_325 18).trans rfl
theorem r_325_21 : xT.1 325 21 = some (.arraylength, ((0, 0), ([], []))) := (kT_325 21).trans rfl
theorem r_325_22 : xT.1 325 22 = some (.invokestatic 212, ((0, 5), ([], [4]))) := (kT_325 22).trans rfl
theorem r_325_25 : xT.1 325 25 = some (.goto 18, ((43, 0), ([], []))) := (kT_325 25).trans rfl
theorem r_325_28 : xT.1 325 28 = some (.aload_n 0, ((0, 0), ([], []))) := (kT_325 28).trans rfl
theorem r_325_29 : xT.1 325 29 = some (.getfield 9, ((12, 1), ([], [4]))) := (kT_325 29).trans rfl
theorem r_325_32 : xT.1 325 32 = some (.iconst 0, ((0, 0), ([.int 0], []))) := (kT_325 32).trans rfl
theorem r_325_33 : xT.1 325 33 = some (.aload_n 1, ((0, 0), ([], []))) := (kT_325 33).trans rfl
theorem r_325_34 : xT.1 325 34 = some (.iload_n 2, ((0, 0), ([], []))) := (kT_325 34).trans rfl
theorem r_325_35 : xT.1 325 35 = some (.aload_n 0, ((0, 0), ([], []))) := (kT_325 35).trans rfl
theorem r_325_36 : xT.1 325 36 = some (.getfield 9, ((12, 1), ([], [4]))) := (kT_325 36).trans rfl
theorem r_325_39 : xT.1 325 39 = some (.arraylength, ((0, 0), ([], []))) := (kT_325 39).trans rfl
theorem r_325_43 : xT.1 325 43 = some (.return_, ((0, 0), ([], []))) := (kT_325 43).trans rfl
theorem kT_326 (pc : Nat) : xT.1 326 pc = xfind k_326 pc := rfl
theorem r_326_0 : xT.1 326 0 = some (.iload_n 1, ((0, 0), ([], []))) := (kT_326 0).trans rfl
theorem r_326_1 : xT.1 326 1 = some (.ifCond .ne 9, ((10, 0), ([], []))) := (kT_326 1).trans rfl
theorem r_326_4 : xT.1 326 4 = some (.iload_n 2, ((0, 0), ([], []))) := (kT_326 4).trans rfl
theorem r_326_5 : xT.1 326 5 = some (.aload_n 0, ((0, 0), ([], []))) := (kT_326 5).trans rfl
theorem r_326_6 : xT.1 326 6 = some (.arraylength, ((0, 0), ([], []))) := (kT_326 6).trans rfl
theorem r_326_7 : xT.1 326 7 = some (.if_icmp .eq 10, ((17, 0), ([], []))) := (kT_326 7).trans rfl
theorem r_326_10 : xT.1 326 10 = some (.aload_n 0, ((0, 0), ([], []))) := (kT_326 10).trans rfl
theorem r_326_11 : xT.1 326 11 = some (.iload_n 1, ((0, 0), ([], []))) := (kT_326 11).trans rfl
theorem r_326_12 : xT.1 326 12 = some (.iload_n 2, ((0, 0), ([], []))) := (kT_326 12).trans rfl
theorem r_326_13 : xT.1 326 13 = some (.invokestatic 339, ((327, 3), ([], [1]))) := (kT_326 13).trans rfl
theorem r_326_16 : xT.1 326 16 = some (.areturn, ((0, 0), ([], []))) := (kT_326 16).trans rfl
theorem r_326_17 : xT.1 326 17 = some (.aload_n 0, ((0, 0), ([], []))) := (kT_326 17).trans rfl
theorem r_326_24 : xT.1 326 24 = some (.areturn, ((0, 0), ([], []))) := (kT_326 24).trans rfl
theorem kT_327 (pc : Nat) : xT.1 327 pc = xfind k_327 pc := rfl
theorem r_327_0 : xT.1 327 0 = some (.iload_n 1, ((0, 0), ([], []))) := (kT_327 0).trans rfl
theorem r_327_1 : xT.1 327 1 = some (.iload_n 2, ((0, 0), ([], []))) := (kT_327 1).trans rfl
theorem r_327_2 : xT.1 327 2 = some (.invokestatic 343, ((328, 2), ([], [1]))) := (kT_327 2).trans rfl
theorem r_327_5 : xT.1 327 5 = some (.iload_n 2, ((0, 0), ([], []))) := (kT_327 5).trans rfl
theorem r_327_6 : xT.1 327 6 = some (.iload_n 1, ((0, 0), ([], []))) := (kT_327 6).trans rfl
theorem r_327_7 : xT.1 327 7 = some (.isub, ((0, 0), ([], []))) := (kT_327 7).trans rfl
theorem r_327_8 : xT.1 327 8 = some (.istore_n 3, ((0, 0), ([], []))) := (kT_327 8).trans rfl
theorem r_327_9 : xT.1 327 9 = some (.iload_n 3, ((0, 0), ([], []))) := (kT_327 9).trans rfl
theorem r_327_10 : xT.1 327 10 = some (.newarray .byte, ((0, 0), ([], []))) := (kT_327 10).trans rfl
theorem r_327_12 : xT.1 327 12 = some (.astore 4, ((0, 0), ([], []))) := (kT_327 12).trans rfl
theorem r_327_14 : xT.1 327 14 = some (.aload_n 0, ((0, 0), ([], []))) := (kT_327 14).trans rfl
theorem r_327_15 : xT.1 327 15 = some (.iload_n 1, ((0, 0), ([], []))) := (kT_327 15).trans rfl
theorem r_327_16 : xT.1 327 16 = some (.aload 4, ((0, 0), ([], []))) := (kT_327 16).trans rfl
theorem r_327_18 : xT.1 327 18 = some (.iconst 0, ((0, 0), ([.int 0], []))) := (kT_327 18).trans rfl
theorem r_327_19 : xT.1 327 19 = some (.aload_n 0, ((0, 0), ([], []))) := (kT_327 19).trans rfl
theorem r_327_20 : xT.1 327 20 = some (.arraylength, ((0, 0), ([], []))) := (kT_327 20).trans rfl
theorem r_327_21 : xT.1 327 21 = some (.iload_n 1, ((0, 0), ([], []))) := (kT_327 21).trans rfl
theorem r_327_22 : xT.1 327 22 = some (.isub, ((0, 0), ([], []))) := (kT_327 22).trans rfl
theorem r_327_23 : xT.1 327 23 = some (.iload_n 3, ((0, 0), ([], []))) := (kT_327 23).trans rfl
theorem r_327_24 : xT.1 327 24 = some (.invokestatic 304, ((21, 2), ([], [4]))) := (kT_327 24).trans rfl
theorem r_327_27 : xT.1 327 27 = some (.invokestatic 150, ((0, 5), ([], [4]))) := (kT_327 27).trans rfl
theorem r_327_30 : xT.1 327 30 = some (.aload 4, ((0, 0), ([], []))) := (kT_327 30).trans rfl
theorem r_327_32 : xT.1 327 32 = some (.areturn, ((0, 0), ([], []))) := (kT_327 32).trans rfl
theorem kT_328 (pc : Nat) : xT.1 328 pc = xfind k_328 pc := rfl
theorem r_328_0 : xT.1 328 0 = some (.iload_n 1, ((0, 0), ([], []))) := (kT_328 0).trans rfl
theorem r_328_1 : xT.1 328 1 = some (.iload_n 0, ((0, 0), ([], []))) := (kT_328 1).trans rfl
theorem r_328_2 : xT.1 328 2 = some (.if_icmp .ge 35, ((37, 0), ([], []))) := (kT_328 2).trans rfl
theorem r_328_8 : xT.1 328 8 = some (.dup, ((0, 0), ([], []))) := (kT_328 8).trans rfl
theorem r_328_9 : xT.1 328 9 = some (.new 45, ((10, 4), ([.null, .int 0, .int 0, .int 0], []))) := (kT_328 9).trans rfl
theorem r_328_12 : xT.1 328 12 = some (.dup, ((0, 0), ([], []))) := (kT_328 12).trans rfl
theorem r_328_13 : xT.1 328 13 = some (.invokespecial 47, ((292, 1), ([], [2]))) := (kT_328 13).trans rfl
theorem r_328_16 : xT.1 328 16 = some (.iload_n 0, ((0, 0), ([], []))) := (kT_328 16).trans rfl
theorem r_328_17 : xT.1 328 17 = some (.invokevirtual 54, ((294, 2), ([], [0]))) := (kT_328 17).trans rfl
theorem r_328_23 : xT.1 328 23 = some (.invokevirtual 50, ((317, 2), ([], [0]))) := (kT_328 23).trans rfl
theorem r_328_26 : xT.1 328 26 = some (.iload_n 1, ((0, 0), ([], []))) := (kT_328 26).trans rfl
theorem r_328_27 : xT.1 328 27 = some (.invokevirtual 54, ((294, 2), ([], [0]))) := (kT_328 27).trans rfl
theorem r_328_30 : xT.1 328 30 = some (.invokevirtual 61, ((318, 1), ([], [0]))) := (kT_328 30).trans rfl
theorem r_328_36 : xT.1 328 36 = some (.athrow, ((0, 0), ([], []))) := (kT_328 36).trans rfl
theorem r_328_37 : xT.1 328 37 = some (.return_, ((0, 0), ([], []))) := (kT_328 37).trans rfl
