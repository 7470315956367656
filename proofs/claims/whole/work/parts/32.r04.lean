/-! the rows of the tables, one by one -/
theorem kT_217 (pc : Nat) : xT.1 217 pc = xfind k_217 pc := rfl
theorem r_217_0 : xT.1 217 0 = some (.aload_n 0, ((0, 0), ([], []))) := (kT_217 0).trans rfl
theorem r_217_1 : xT.1 217 1 = some (.iload_n 1, ((0, 0), ([], []))) := (kT_217 1).trans rfl
theorem r_217_2 : xT.1 217 2 = some (.invokevirtual 152, ((216, 2), ([], [0]))) := (kT_217 2).trans rfl
theorem r_217_5 : xT.1 217 5 = some (.ireturn, ((0, 0), ([], []))) := (kT_217 5).trans rfl
theorem kT_218 (pc : Nat) : xT.1 218 pc = xfind k_218 pc := rfl
theorem r_218_0 : xT.1 218 0 = some (.iload_n 1, ((0, 0), ([], []))) := (kT_218 0).trans rfl
theorem r_218_1 : xT.1 218 1 = some (.iconst 1, ((0, 0), ([.int 1], []))) := (kT_218 1).trans rfl
theorem r_218_2 : xT.1 218 2 = some (.bipush 9, ((0, 0), ([.int 9], []))) := (kT_218 2).trans rfl
theorem r_218_4 : xT.1 218 4 = some (.invokestatic 52, ((150, 3), ([], [1]))) := (kT_218 4).trans rfl
theorem r_218_7 : xT.1 218 7 = some (.ifCond .eq 17, ((24, 0), ([], []))) := (kT_218 7).trans rfl
theorem r_218_10 : xT.1 218 10 = some (.aload_n 0, ((0, 0), ([], []))) := (kT_218 10).trans rfl
theorem r_218_11 : xT.1 218 11 = some (.aload_n 0, ((0, 0), ([], []))) := (kT_218 11).trans rfl
theorem r_218_12 : xT.1 218 12 = some (.bipush 75, ((0, 0), ([.int 75], []))) := (kT_218 12).trans rfl
theorem r_218_14 : xT.1 218 14 = some (.iload_n 1, ((0, 0), ([], []))) := (kT_218 14).trans rfl
theorem r_218_15 : xT.1 218 15 = some (.invokevirtual 149, ((215, 3), ([], [0]))) := (kT_218 15).trans rfl
theorem r_218_18 : xT.1 218 18 = some (.invokevirtual 64, ((152, 2), ([], [0]))) := (kT_218 18).trans rfl
theorem r_218_21 : xT.1 218 21 = some (.goto 8, ((29, 0), ([], []))) := (kT_218 21).trans rfl
theorem r_218_24 : xT.1 218 24 = some (.aload_n 0, ((0, 0), ([], []))) := (kT_218 24).trans rfl
theorem r_218_25 : xT.1 218 25 = some (.iconst 1, ((0, 0), ([.int 1], []))) := (kT_218 25).trans rfl
theorem r_218_26 : xT.1 218 26 = some (.invokevirtual 60, ((153, 2), ([], [0]))) := (kT_218 26).trans rfl
theorem r_218_29 : xT.1 218 29 = some (.ireturn, ((0, 0), ([], []))) := (kT_218 29).trans rfl
theorem kT_219 (pc : Nat) : xT.1 219 pc = xfind k_219 pc := rfl
theorem r_219_0 : xT.1 219 0 = some (.aload_n 0, ((0, 0), ([], []))) := (kT_219 0).trans rfl
theorem r_219_1 : xT.1 219 1 = some (.iload_n 1, ((0, 0), ([], []))) := (kT_219 1).trans rfl
theorem r_219_2 : xT.1 219 2 = some (.iconst 1, ((0, 0), ([.int 1], []))) := (kT_219 2).trans rfl
theorem r_219_3 : xT.1 219 3 = some (.bipush 9, ((0, 0), ([.int 9], []))) := (kT_219 3).trans rfl
theorem r_219_5 : xT.1 219 5 = some (.invokestatic 52, ((150, 3), ([], [1]))) := (kT_219 5).trans rfl
theorem r_219_8 : xT.1 219 8 = some (.ifCond .ne 7, ((15, 0), ([], []))) := (kT_219 8).trans rfl
theorem r_219_11 : xT.1 219 11 = some (.iconst 1, ((0, 0), ([.int 1], []))) := (kT_219 11).trans rfl
theorem r_219_12 : xT.1 219 12 = some (.goto 18, ((30, 0), ([], []))) := (kT_219 12).trans rfl
theorem r_219_15 : xT.1 219 15 = some (.aload_n 0, ((0, 0), ([], []))) := (kT_219 15).trans rfl
theorem r_219_16 : xT.1 219 16 = some (.bipush 30, ((0, 0), ([.int 30], []))) := (kT_219 16).trans rfl
theorem r_219_18 : xT.1 219 18 = some (.iload_n 1, ((0, 0), ([], []))) := (kT_219 18).trans rfl
theorem r_219_19 : xT.1 219 19 = some (.invokevirtual 149, ((215, 3), ([], [0]))) := (kT_219 19).trans rfl
theorem r_219_22 : xT.1 219 22 = some (.ifCond .ne 7, ((29, 0), ([], []))) := (kT_219 22).trans rfl
theorem r_219_25 : xT.1 219 25 = some (.iconst 2, ((0, 0), ([.int 2], []))) := (kT_219 25).trans rfl
theorem r_219_26 : xT.1 219 26 = some (.goto 4, ((30, 0), ([], []))) := (kT_219 26).trans rfl
theorem r_219_29 : xT.1 219 29 = some (.iconst 0, ((0, 0), ([.int 0], []))) := (kT_219 29).trans rfl
theorem r_219_30 : xT.1 219 30 = some (.putfield 42, ((9, 12), ([], [0]))) := (kT_219 30).trans rfl
theorem r_219_33 : xT.1 219 33 = some (.aload_n 0, ((0, 0), ([], []))) := (kT_219 33).trans rfl
theorem r_219_34 : xT.1 219 34 = some (.getfield 42, ((9, 12), ([], []))) := (kT_219 34).trans rfl
theorem r_219_37 : xT.1 219 37 = some (.ifCond .ne 23, ((60, 0), ([], []))) := (kT_219 37).trans rfl
theorem r_219_40 : xT.1 219 40 = some (.aload_n 0, ((0, 0), ([], []))) := (kT_219 40).trans rfl
theorem r_219_41 : xT.1 219 41 = some (.bipush 75, ((0, 0), ([.int 75], []))) := (kT_219 41).trans rfl
theorem r_219_43 : xT.1 219 43 = some (.iload_n 1, ((0, 0), ([], []))) := (kT_219 43).trans rfl
theorem r_219_44 : xT.1 219 44 = some (.invokevirtual 149, ((215, 3), ([], [0]))) := (kT_219 44).trans rfl
theorem r_219_47 : xT.1 219 47 = some (.i2f, ((0, 0), ([], []))) := (kT_219 47).trans rfl
theorem r_219_48 : xT.1 219 48 = some (.aload_n 0, ((0, 0), ([], []))) := (kT_219 48).trans rfl
theorem r_219_49 : xT.1 219 49 = some (.bipush 30, ((0, 0), ([.int 30], []))) := (kT_219 49).trans rfl
theorem r_219_51 : xT.1 219 51 = some (.iload_n 1, ((0, 0), ([], []))) := (kT_219 51).trans rfl
theorem r_219_52 : xT.1 219 52 = some (.invokevirtual 149, ((215, 3), ([], [0]))) := (kT_219 52).trans rfl
theorem r_219_55 : xT.1 219 55 = some (.i2f, ((0, 0), ([], []))) := (kT_219 55).trans rfl
theorem r_219_56 : xT.1 219 56 = some (.fdiv, ((0, 0), ([], []))) := (kT_219 56).trans rfl
theorem r_219_57 : xT.1 219 57 = some (.goto 4, ((61, 0), ([], []))) := (kT_219 57).trans rfl
theorem r_219_60 : xT.1 219 60 = some (.fconst 0, ((0, 0), ([], []))) := (kT_219 60).trans rfl
theorem r_219_61 : xT.1 219 61 = some (.freturn, ((0, 0), ([], []))) := (kT_219 61).trans rfl
theorem kT_220 (pc : Nat) : xT.1 220 pc = xfind k_220 pc := rfl
theorem r_220_0 : xT.1 220 0 = some (.aload_n 0, ((0, 0), ([], []))) := (kT_220 0).trans rfl
theorem r_220_1 : xT.1 220 1 = some (.iconst 0, ((0, 0), ([.int 0], []))) := (kT_220 1).trans rfl
theorem r_220_2 : xT.1 220 2 = some (.putfield 42, ((9, 12), ([], [0]))) := (kT_220 2).trans rfl
theorem r_220_5 : xT.1 220 5 = some (.iconst 1, ((0, 0), ([.int 1], []))) := (kT_220 5).trans rfl
theorem r_220_6 : xT.1 220 6 = some (.ireturn, ((0, 0), ([], []))) := (kT_220 6).trans rfl
theorem kT_221 (pc : Nat) : xT.1 221 pc = xfind k_221 pc := rfl
theorem r_221_0 : xT.1 221 0 = some (.aload_n 0, ((0, 0), ([], []))) := (kT_221 0).trans rfl
theorem r_221_1 : xT.1 221 1 = some (.getfield 155, ((9, 7), ([], []))) := (kT_221 1).trans rfl
theorem r_221_4 : xT.1 221 4 = some (.bipush 60, ((0, 0), ([.int 60], []))) := (kT_221 4).trans rfl
theorem r_221_6 : xT.1 221 6 = some (.if_icmp .ne 9, ((15, 0), ([], []))) := (kT_221 6).trans rfl
theorem r_221_9 : xT.1 221 9 = some (.aload_n 0, ((0, 0), ([], []))) := (kT_221 9).trans rfl
theorem r_221_10 : xT.1 221 10 = some (.iconst 1, ((0, 0), ([.int 1], []))) := (kT_221 10).trans rfl
theorem r_221_11 : xT.1 221 11 = some (.invokevirtual 60, ((153, 2), ([], [0]))) := (kT_221 11).trans rfl
theorem r_221_14 : xT.1 221 14 = some (.ireturn, ((0, 0), ([], []))) := (kT_221 14).trans rfl
theorem r_221_15 : xT.1 221 15 = some (.aload_n 0, ((0, 0), ([], []))) := (kT_221 15).trans rfl
theorem r_221_16 : xT.1 221 16 = some (.getfield 22, ((9, 6), ([], []))) := (kT_221 16).trans rfl
theorem r_221_19 : xT.1 221 19 = some (.aload_n 0, ((0, 0), ([], []))) := (kT_221 19).trans rfl
theorem r_221_20 : xT.1 221 20 = some (.getfield 155, ((9, 7), ([], []))) := (kT_221 20).trans rfl
theorem r_221_23 : xT.1 221 23 = some (.iload_n 1, ((0, 0), ([], []))) := (kT_221 23).trans rfl
theorem r_221_24 : xT.1 221 24 = some (.castore, ((0, 0), ([], []))) := (kT_221 24).trans rfl
theorem r_221_25 : xT.1 221 25 = some (.aload_n 0, ((0, 0), ([], []))) := (kT_221 25).trans rfl
theorem r_221_26 : xT.1 221 26 = some (.dup, ((0, 0), ([], []))) := (kT_221 26).trans rfl
theorem r_221_27 : xT.1 221 27 = some (.getfield 155, ((9, 7), ([], []))) := (kT_221 27).trans rfl
theorem r_221_30 : xT.1 221 30 = some (.iconst 1, ((0, 0), ([.int 1], []))) := (kT_221 30).trans rfl
theorem r_221_31 : xT.1 221 31 = some (.iadd, ((0, 0), ([], []))) := (kT_221 31).trans rfl
theorem r_221_32 : xT.1 221 32 = some (.putfield 155, ((9, 7), ([], [0]))) := (kT_221 32).trans rfl
theorem r_221_35 : xT.1 221 35 = some (.aload_n 0, ((0, 0), ([], []))) := (kT_221 35).trans rfl
theorem r_221_36 : xT.1 221 36 = some (.aload_n 0, ((0, 0), ([], []))) := (kT_221 36).trans rfl
theorem r_221_37 : xT.1 221 37 = some (.getfield 155, ((9, 7), ([], []))) := (kT_221 37).trans rfl
theorem r_221_40 : xT.1 221 40 = some (.invokevirtual 64, ((152, 2), ([], [0]))) := (kT_221 40).trans rfl
theorem r_221_43 : xT.1 221 43 = some (.ireturn, ((0, 0), ([], []))) := (kT_221 43).trans rfl
theorem kT_222 (pc : Nat) : xT.1 222 pc = xfind k_222 pc := rfl
theorem r_222_0 : xT.1 222 0 = some (.aload_n 0, ((0, 0), ([], []))) := (kT_222 0).trans rfl
theorem r_222_1 : xT.1 222 1 = some (.getfield 158, ((9, 14), ([], []))) := (kT_222 1).trans rfl
theorem r_222_4 : xT.1 222 4 = some (.aload_n 0, ((0, 0), ([], []))) := (kT_222 4).trans rfl
theorem r_222_5 : xT.1 222 5 = some (.getfield 155, ((9, 7), ([], []))) := (kT_222 5).trans rfl
theorem r_222_8 : xT.1 222 8 = some (.if_icmp .ge 15, ((23, 0), ([], []))) := (kT_222 8).trans rfl
theorem r_222_11 : xT.1 222 11 = some (.aload_n 0, ((0, 0), ([], []))) := (kT_222 11).trans rfl
theorem r_222_12 : xT.1 222 12 = some (.getfield 22, ((9, 6), ([], []))) := (kT_222 12).trans rfl
theorem r_222_15 : xT.1 222 15 = some (.aload_n 0, ((0, 0), ([], []))) := (kT_222 15).trans rfl
theorem r_222_16 : xT.1 222 16 = some (.getfield 158, ((9, 14), ([], []))) := (kT_222 16).trans rfl
theorem r_222_19 : xT.1 222 19 = some (.caload, ((0, 0), ([], []))) := (kT_222 19).trans rfl
theorem r_222_20 : xT.1 222 20 = some (.goto 4, ((24, 0), ([], []))) := (kT_222 20).trans rfl
theorem r_222_23 : xT.1 222 23 = some (.iconst (-1), ((0, 0), ([.int (-1)], []))) := (kT_222 23).trans rfl
theorem r_222_24 : xT.1 222 24 = some (.ireturn, ((0, 0), ([], []))) := (kT_222 24).trans rfl
theorem kT_223 (pc : Nat) : xT.1 223 pc = xfind k_223 pc := rfl
theorem r_223_0 : xT.1 223 0 = some (.aload_n 0, ((0, 0), ([], []))) := (kT_223 0).trans rfl
theorem r_223_1 : xT.1 223 1 = some (.aload_n 0, ((0, 0), ([], []))) := (kT_223 1).trans rfl
theorem r_223_2 : xT.1 223 2 = some (.getfield 161, ((9, 15), ([], []))) := (kT_223 2).trans rfl
theorem r_223_5 : xT.1 223 5 = some (.ifCond .ne 11, ((16, 0), ([], []))) := (kT_223 5).trans rfl
theorem r_223_8 : xT.1 223 8 = some (.aload_n 0, ((0, 0), ([], []))) := (kT_223 8).trans rfl
theorem r_223_9 : xT.1 223 9 = some (.invokevirtual 165, ((222, 1), ([], [0]))) := (kT_223 9).trans rfl
theorem r_223_12 : xT.1 223 12 = some (.iload_n 1, ((0, 0), ([], []))) := (kT_223 12).trans rfl
theorem r_223_13 : xT.1 223 13 = some (.if_icmp .eq 7, ((20, 0), ([], []))) := (kT_223 13).trans rfl
theorem r_223_16 : xT.1 223 16 = some (.iconst 1, ((0, 0), ([.int 1], []))) := (kT_223 16).trans rfl
theorem r_223_17 : xT.1 223 17 = some (.goto 4, ((21, 0), ([], []))) := (kT_223 17).trans rfl
theorem r_223_20 : xT.1 223 20 = some (.iconst 0, ((0, 0), ([.int 0], []))) := (kT_223 20).trans rfl
theorem r_223_21 : xT.1 223 21 = some (.putfield 161, ((9, 15), ([], [1]))) := (kT_223 21).trans rfl
theorem r_223_24 : xT.1 223 24 = some (.aload_n 0, ((0, 0), ([], []))) := (kT_223 24).trans rfl
theorem r_223_25 : xT.1 223 25 = some (.dup, ((0, 0), ([], []))) := (kT_223 25).trans rfl
theorem r_223_26 : xT.1 223 26 = some (.getfield 158, ((9, 14), ([], []))) := (kT_223 26).trans rfl
theorem r_223_29 : xT.1 223 29 = some (.aload_n 0, ((0, 0), ([], []))) := (kT_223 29).trans rfl
theorem r_223_30 : xT.1 223 30 = some (.getfield 161, ((9, 15), ([], []))) := (kT_223 30).trans rfl
theorem r_223_33 : xT.1 223 33 = some (.ifCond .eq 7, ((40, 0), ([], []))) := (kT_223 33).trans rfl
theorem r_223_36 : xT.1 223 36 = some (.iconst 0, ((0, 0), ([.int 0], []))) := (kT_223 36).trans rfl
theorem r_223_37 : xT.1 223 37 = some (.goto 4, ((41, 0), ([], []))) := (kT_223 37).trans rfl
theorem r_223_40 : xT.1 223 40 = some (.iconst 1, ((0, 0), ([.int 1], []))) := (kT_223 40).trans rfl
theorem r_223_41 : xT.1 223 41 = some (.iadd, ((0, 0), ([], []))) := (kT_223 41).trans rfl
theorem r_223_42 : xT.1 223 42 = some (.putfield 158, ((9, 14), ([], [0]))) := (kT_223 42).trans rfl
theorem r_223_45 : xT.1 223 45 = some (.return_, ((0, 0), ([], []))) := (kT_223 45).trans rfl
theorem kT_224 (pc : Nat) : xT.1 224 pc = xfind k_224 pc := rfl
theorem r_224_0 : xT.1 224 0 = some (.aload_n 0, ((0, 0), ([], []))) := (kT_224 0).trans rfl
theorem r_224_1 : xT.1 224 1 = some (.iload_n 1, ((0, 0), ([], []))) := (kT_224 1).trans rfl
theorem r_224_2 : xT.1 224 2 = some (.invokevirtual 168, ((223, 2), ([], [0]))) := (kT_224 2).trans rfl
theorem r_224_5 : xT.1 224 5 = some (.aload_n 0, ((0, 0), ([], []))) := (kT_224 5).trans rfl
theorem r_224_6 : xT.1 224 6 = some (.iload_n 2, ((0, 0), ([], []))) := (kT_224 6).trans rfl
theorem r_224_7 : xT.1 224 7 = some (.invokevirtual 168, ((223, 2), ([], [0]))) := (kT_224 7).trans rfl
theorem r_224_10 : xT.1 224 10 = some (.aload_n 0, ((0, 0), ([], []))) := (kT_224 10).trans rfl
theorem r_224_11 : xT.1 224 11 = some (.iload_n 3, ((0, 0), ([], []))) := (kT_224 11).trans rfl
theorem r_224_12 : xT.1 224 12 = some (.invokevirtual 168, ((223, 2), ([], [0]))) := (kT_224 12).trans rfl
theorem r_224_15 : xT.1 224 15 = some (.return_, ((0, 0), ([], []))) := (kT_224 15).trans rfl
theorem kT_225 (pc : Nat) : xT.1 225 pc = xfind k_225 pc := rfl
theorem r_225_0 : xT.1 225 0 = some (.aload_n 0, ((0, 0), ([], []))) := (kT_225 0).trans rfl
theorem r_225_1 : xT.1 225 1 = some (.aload_n 0, ((0, 0), ([], []))) := (kT_225 1).trans rfl
theorem r_225_2 : xT.1 225 2 = some (.getfield 161, ((9, 15), ([], []))) := (kT_225 2).trans rfl
theorem r_225_5 : xT.1 225 5 = some (.ifCond .ne 17, ((22, 0), ([], []))) := (kT_225 5).trans rfl
theorem r_225_8 : xT.1 225 8 = some (.aload_n 0, ((0, 0), ([], []))) := (kT_225 8).trans rfl
theorem r_225_9 : xT.1 225 9 = some (.invokevirtual 165, ((222, 1), ([], [0]))) := (kT_225 9).trans rfl
theorem r_225_12 : xT.1 225 12 = some (.bipush 48, ((0, 0), ([.int 48], []))) := (kT_225 12).trans rfl
theorem r_225_14 : xT.1 225 14 = some (.bipush 57, ((0, 0), ([.int 57], []))) := (kT_225 14).trans rfl
theorem r_225_16 : xT.1 225 16 = some (.invokestatic 52, ((150, 3), ([], [1]))) := (kT_225 16).trans rfl
theorem r_225_19 : xT.1 225 19 = some (.ifCond .ne 7, ((26, 0), ([], []))) := (kT_225 19).trans rfl
theorem r_225_22 : xT.1 225 22 = some (.iconst 1, ((0, 0), ([.int 1], []))) := (kT_225 22).trans rfl
theorem r_225_23 : xT.1 225 23 = some (.goto 4, ((27, 0), ([], []))) := (kT_225 23).trans rfl
theorem r_225_26 : xT.1 225 26 = some (.iconst 0, ((0, 0), ([.int 0], []))) := (kT_225 26).trans rfl
theorem r_225_27 : xT.1 225 27 = some (.putfield 161, ((9, 15), ([], [1]))) := (kT_225 27).trans rfl
theorem r_225_30 : xT.1 225 30 = some (.iconst 0, ((0, 0), ([.int 0], []))) := (kT_225 30).trans rfl
theorem r_225_31 : xT.1 225 31 = some (.istore_n 2, ((0, 0), ([], []))) := (kT_225 31).trans rfl
theorem r_225_32 : xT.1 225 32 = some (.iconst 0, ((0, 0), ([.int 0], []))) := (kT_225 32).trans rfl
theorem r_225_33 : xT.1 225 33 = some (.istore_n 3, ((0, 0), ([], []))) := (kT_225 33).trans rfl
theorem r_225_34 : xT.1 225 34 = some (.aload_n 0, ((0, 0), ([], []))) := (kT_225 34).trans rfl
theorem r_225_35 : xT.1 225 35 = some (.getfield 161, ((9, 15), ([], []))) := (kT_225 35).trans rfl
theorem r_225_38 : xT.1 225 38 = some (.ifCond .ne 51, ((89, 0), ([], []))) := (kT_225 38).trans rfl
theorem r_225_41 : xT.1 225 41 = some (.iload_n 3, ((0, 0), ([], []))) := (kT_225 41).trans rfl
theorem r_225_42 : xT.1 225 42 = some (.iload_n 1, ((0, 0), ([], []))) := (kT_225 42).trans rfl
theorem r_225_43 : xT.1 225 43 = some (.if_icmp .ge 46, ((89, 0), ([], []))) := (kT_225 43).trans rfl
theorem r_225_46 : xT.1 225 46 = some (.aload_n 0, ((0, 0), ([], []))) := (kT_225 46).trans rfl
theorem r_225_47 : xT.1 225 47 = some (.invokevirtual 165, ((222, 1), ([], [0]))) := (kT_225 47).trans rfl
theorem r_225_50 : xT.1 225 50 = some (.bipush 48, ((0, 0), ([.int 48], []))) := (kT_225 50).trans rfl
theorem r_225_52 : xT.1 225 52 = some (.bipush 57, ((0, 0), ([.int 57], []))) := (kT_225 52).trans rfl
theorem r_225_54 : xT.1 225 54 = some (.invokestatic 52, ((150, 3), ([], [1]))) := (kT_225 54).trans rfl
theorem r_225_57 : xT.1 225 57 = some (.ifCond .eq 32, ((89, 0), ([], []))) := (kT_225 57).trans rfl
theorem r_225_60 : xT.1 225 60 = some (.bipush 10, ((0, 0), ([.int 10], []))) := (kT_225 60).trans rfl
theorem r_225_62 : xT.1 225 62 = some (.iload_n 2, ((0, 0), ([], []))) := (kT_225 62).trans rfl
theorem r_225_63 : xT.1 225 63 = some (.imul, ((0, 0), ([], []))) := (kT_225 63).trans rfl
theorem r_225_64 : xT.1 225 64 = some (.aload_n 0, ((0, 0), ([], []))) := (kT_225 64).trans rfl
theorem r_225_65 : xT.1 225 65 = some (.invokevirtual 165, ((222, 1), ([], [0]))) := (kT_225 65).trans rfl
theorem r_225_68 : xT.1 225 68 = some (.iadd, ((0, 0), ([], []))) := (kT_225 68).trans rfl
theorem r_225_69 : xT.1 225 69 = some (.bipush 48, ((0, 0), ([.int 48], []))) := (kT_225 69).trans rfl
theorem r_225_71 : xT.1 225 71 = some (.isub, ((0, 0), ([], []))) := (kT_225 71).trans rfl
theorem r_225_72 : xT.1 225 72 = some (.istore_n 2, ((0, 0), ([], []))) := (kT_225 72).trans rfl
theorem r_225_73 : xT.1 225 73 = some (.aload_n 0, ((0, 0), ([], []))) := (kT_225 73).trans rfl
theorem r_225_74 : xT.1 225 74 = some (.dup, ((0, 0), ([], []))) := (kT_225 74).trans rfl
theorem r_225_75 : xT.1 225 75 = some (.getfield 158, ((9, 14), ([], []))) := (kT_225 75).trans rfl
theorem r_225_78 : xT.1 225 78 = some (.iconst 1, ((0, 0), ([.int 1], []))) := (kT_225 78).trans rfl
theorem r_225_79 : xT.1 225 79 = some (.iadd, ((0, 0), ([], []))) := (kT_225 79).trans rfl
theorem r_225_80 : xT.1 225 80 = some (.putfield 158, ((9, 14), ([], [0]))) := (kT_225 80).trans rfl
theorem r_225_83 : xT.1 225 83 = some (.iinc 3 1, ((0, 0), ([.int (1)], []))) := (kT_225 83).trans rfl
theorem r_225_86 : xT.1 225 86 = some (.goto (-52), ((34, 0), ([], []))) := (kT_225 86).trans rfl
theorem r_225_89 : xT.1 225 89 = some (.iload_n 2, ((0, 0), ([], []))) := (kT_225 89).trans rfl
theorem r_225_90 : xT.1 225 90 = some (.ireturn, ((0, 0), ([], []))) := (kT_225 90).trans rfl
theorem kT_226 (pc : Nat) : xT.1 226 pc = xfind k_226 pc := rfl
theorem r_226_0 : xT.1 226 0 = some (.aload_n 0, ((0, 0), ([], []))) := (kT_226 0).trans rfl
theorem r_226_1 : xT.1 226 1 = some (.iload_n 1, ((0, 0), ([], []))) := (kT_226 1).trans rfl
theorem r_226_2 : xT.1 226 2 = some (.invokevirtual 168, ((223, 2), ([], [0]))) := (kT_226 2).trans rfl
theorem r_226_5 : xT.1 226 5 = some (.aload_n 0, ((0, 0), ([], []))) := (kT_226 5).trans rfl
theorem r_226_6 : xT.1 226 6 = some (.iload_n 2, ((0, 0), ([], []))) := (kT_226 6).trans rfl
theorem r_226_7 : xT.1 226 7 = some (.invokevirtual 172, ((225, 2), ([], [0]))) := (kT_226 7).trans rfl
theorem r_226_10 : xT.1 226 10 = some (.ireturn, ((0, 0), ([], []))) := (kT_226 10).trans rfl
theorem kT_227 (pc : Nat) : xT.1 227 pc = xfind k_227 pc := rfl
theorem r_227_0 : xT.1 227 0 = some (.aload_n 0, ((0, 0), ([], []))) := (kT_227 0).trans rfl
theorem r_227_1 : xT.1 227 1 = some (.bipush 101, ((0, 0), ([.int 101], []))) := (kT_227 1).trans rfl
theorem r_227_3 : xT.1 227 3 = some (.invokevirtual 168, ((223, 2), ([], [0]))) := (kT_227 3).trans rfl
theorem r_227_6 : xT.1 227 6 = some (.aload_n 0, ((0, 0), ([], []))) := (kT_227 6).trans rfl
theorem r_227_7 : xT.1 227 7 = some (.bipush 116, ((0, 0), ([.int 116], []))) := (kT_227 7).trans rfl
theorem r_227_9 : xT.1 227 9 = some (.invokevirtual 168, ((223, 2), ([], [0]))) := (kT_227 9).trans rfl
theorem r_227_12 : xT.1 227 12 = some (.aload_n 0, ((0, 0), ([], []))) := (kT_227 12).trans rfl
theorem r_227_13 : xT.1 227 13 = some (.getfield 39, ((9, 16), ([], []))) := (kT_227 13).trans rfl
theorem r_227_16 : xT.1 227 16 = some (.iload_n 1, ((0, 0), ([], []))) := (kT_227 16).trans rfl
theorem r_227_17 : xT.1 227 17 = some (.iconst 1, ((0, 0), ([.int 1], []))) := (kT_227 17).trans rfl
theorem r_227_18 : xT.1 227 18 = some (.iadd, ((0, 0), ([], []))) := (kT_227 18).trans rfl
theorem r_227_19 : xT.1 227 19 = some (.aload_n 0, ((0, 0), ([], []))) := (kT_227 19).trans rfl
theorem r_227_20 : xT.1 227 20 = some (.bipush 32, ((0, 0), ([.int 32], []))) := (kT_227 20).trans rfl
theorem r_227_22 : xT.1 227 22 = some (.iconst 1, ((0, 0), ([.int 1], []))) := (kT_227 22).trans rfl
theorem r_227_23 : xT.1 227 23 = some (.invokevirtual 175, ((226, 3), ([], [0]))) := (kT_227 23).trans rfl
theorem r_227_26 : xT.1 227 26 = some (.iastore, ((0, 0), ([], []))) := (kT_227 26).trans rfl
theorem r_227_27 : xT.1 227 27 = some (.aload_n 0, ((0, 0), ([], []))) := (kT_227 27).trans rfl
theorem r_227_28 : xT.1 227 28 = some (.getfield 39, ((9, 16), ([], []))) := (kT_227 28).trans rfl
theorem r_227_31 : xT.1 227 31 = some (.iload_n 1, ((0, 0), ([], []))) := (kT_227 31).trans rfl
theorem r_227_32 : xT.1 227 32 = some (.iconst 2, ((0, 0), ([.int 2], []))) := (kT_227 32).trans rfl
theorem r_227_33 : xT.1 227 33 = some (.iadd, ((0, 0), ([], []))) := (kT_227 33).trans rfl
theorem r_227_34 : xT.1 227 34 = some (.aload_n 0, ((0, 0), ([], []))) := (kT_227 34).trans rfl
theorem r_227_35 : xT.1 227 35 = some (.bipush 32, ((0, 0), ([.int 32], []))) := (kT_227 35).trans rfl
theorem r_227_37 : xT.1 227 37 = some (.iconst 2, ((0, 0), ([.int 2], []))) := (kT_227 37).trans rfl
theorem r_227_38 : xT.1 227 38 = some (.invokevirtual 175, ((226, 3), ([], [0]))) := (kT_227 38).trans rfl
theorem r_227_41 : xT.1 227 41 = some (.iastore, ((0, 0), ([], []))) := (kT_227 41).trans rfl
theorem r_227_42 : xT.1 227 42 = some (.aload_n 0, ((0, 0), ([], []))) := (kT_227 42).trans rfl
theorem r_227_43 : xT.1 227 43 = some (.getfield 39, ((9, 16), ([], []))) := (kT_227 43).trans rfl
theorem r_227_46 : xT.1 227 46 = some (.iload_n 1, ((0, 0), ([], []))) := (kT_227 46).trans rfl
theorem r_227_47 : xT.1 227 47 = some (.iconst 3, ((0, 0), ([.int 3], []))) := (kT_227 47).trans rfl
theorem r_227_48 : xT.1 227 48 = some (.iadd, ((0, 0), ([], []))) := (kT_227 48).trans rfl
theorem r_227_49 : xT.1 227 49 = some (.aload_n 0, ((0, 0), ([], []))) := (kT_227 49).trans rfl
theorem r_227_50 : xT.1 227 50 = some (.bipush 32, ((0, 0), ([.int 32], []))) := (kT_227 50).trans rfl
theorem r_227_52 : xT.1 227 52 = some (.iconst 3, ((0, 0), ([.int 3], []))) := (kT_227 52).trans rfl
theorem r_227_53 : xT.1 227 53 = some (.invokevirtual 175, ((226, 3), ([], [0]))) := (kT_227 53).trans rfl
theorem r_227_56 : xT.1 227 56 = some (.iastore, ((0, 0), ([], []))) := (kT_227 56).trans rfl
theorem r_227_57 : xT.1 227 57 = some (.aload_n 0, ((0, 0), ([], []))) := (kT_227 57).trans rfl
theorem r_227_58 : xT.1 227 58 = some (.getfield 39, ((9, 16), ([], []))) := (kT_227 58).trans rfl
theorem r_227_61 : xT.1 227 61 = some (.iload_n 1, ((0, 0), ([], []))) := (kT_227 61).trans rfl
theorem r_227_62 : xT.1 227 62 = some (.iconst 4, ((0, 0), ([.int 4], []))) := (kT_227 62).trans rfl
theorem r_227_63 : xT.1 227 63 = some (.iadd, ((0, 0), ([], []))) := (kT_227 63).trans rfl
theorem r_227_64 : xT.1 227 64 = some (.aload_n 0, ((0, 0), ([], []))) := (kT_227 64).trans rfl
theorem r_227_65 : xT.1 227 65 = some (.bipush 45, ((0, 0), ([.int 45], []))) := (kT_227 65).trans rfl
theorem r_227_67 : xT.1 227 67 = some (.iconst 3, ((0, 0), ([.int 3], []))) := (kT_227 67).trans rfl
theorem r_227_68 : xT.1 227 68 = some (.invokevirtual 175, ((226, 3), ([], [0]))) := (kT_227 68).trans rfl
theorem r_227_71 : xT.1 227 71 = some (.iastore, ((0, 0), ([], []))) := (kT_227 71).trans rfl
theorem r_227_72 : xT.1 227 72 = some (.aload_n 0, ((0, 0), ([], []))) := (kT_227 72).trans rfl
theorem r_227_73 : xT.1 227 73 = some (.getfield 39, ((9, 16), ([], []))) := (kT_227 73).trans rfl
theorem r_227_76 : xT.1 227 76 = some (.iload_n 1, ((0, 0), ([], []))) := (kT_227 76).trans rfl
theorem r_227_77 : xT.1 227 77 = some (.iconst 5, ((0, 0), ([.int 5], []))) := (kT_227 77).trans rfl
theorem r_227_78 : xT.1 227 78 = some (.iadd, ((0, 0), ([], []))) := (kT_227 78).trans rfl
theorem r_227_79 : xT.1 227 79 = some (.aload_n 0, ((0, 0), ([], []))) := (kT_227 79).trans rfl
theorem r_227_80 : xT.1 227 80 = some (.bipush 32, ((0, 0), ([.int 32], []))) := (kT_227 80).trans rfl
theorem r_227_82 : xT.1 227 82 = some (.iconst 1, ((0, 0), ([.int 1], []))) := (kT_227 82).trans rfl
theorem r_227_83 : xT.1 227 83 = some (.invokevirtual 175, ((226, 3), ([], [0]))) := (kT_227 83).trans rfl
theorem r_227_86 : xT.1 227 86 = some (.iastore, ((0, 0), ([], []))) := (kT_227 86).trans rfl
theorem r_227_87 : xT.1 227 87 = some (.aload_n 0, ((0, 0), ([], []))) := (kT_227 87).trans rfl
theorem r_227_88 : xT.1 227 88 = some (.getfield 39, ((9, 16), ([], []))) := (kT_227 88).trans rfl
theorem r_227_91 : xT.1 227 91 = some (.iload_n 1, ((0, 0), ([], []))) := (kT_227 91).trans rfl
theorem r_227_92 : xT.1 227 92 = some (.bipush 6, ((0, 0), ([.int 6], []))) := (kT_227 92).trans rfl
theorem r_227_94 : xT.1 227 94 = some (.iadd, ((0, 0), ([], []))) := (kT_227 94).trans rfl
theorem r_227_95 : xT.1 227 95 = some (.aload_n 0, ((0, 0), ([], []))) := (kT_227 95).trans rfl
theorem r_227_96 : xT.1 227 96 = some (.bipush 32, ((0, 0), ([.int 32], []))) := (kT_227 96).trans rfl
theorem r_227_98 : xT.1 227 98 = some (.iconst 2, ((0, 0), ([.int 2], []))) := (kT_227 98).trans rfl
theorem r_227_99 : xT.1 227 99 = some (.invokevirtual 175, ((226, 3), ([], [0]))) := (kT_227 99).trans rfl
theorem r_227_102 : xT.1 227 102 = some (.iastore, ((0, 0), ([], []))) := (kT_227 102).trans rfl
theorem r_227_103 : xT.1 227 103 = some (.return_, ((0, 0), ([], []))) := (kT_227 103).trans rfl
theorem kT_228 (pc : Nat) : xT.1 228 pc = xfind k_228 pc := rfl
theorem r_228_0 : xT.1 228 0 = some (.aload_n 0, ((0, 0), ([], []))) := (kT_228 0).trans rfl
theorem r_228_1 : xT.1 228 1 = some (.invokevirtual 165, ((222, 1), ([], [0]))) := (kT_228 1).trans rfl
theorem r_228_4 : xT.1 228 4 = some (.bipush 117, ((0, 0), ([.int 117], []))) := (kT_228 4).trans rfl
theorem r_228_6 : xT.1 228 6 = some (.if_icmp .ne 26, ((32, 0), ([], []))) := (kT_228 6).trans rfl
theorem r_228_9 : xT.1 228 9 = some (.aload_n 0, ((0, 0), ([], []))) := (kT_228 9).trans rfl
theorem r_228_10 : xT.1 228 10 = some (.getfield 39, ((9, 16), ([], []))) := (kT_228 10).trans rfl
theorem r_228_13 : xT.1 228 13 = some (.iload_n 1, ((0, 0), ([], []))) := (kT_228 13).trans rfl
theorem r_228_14 : xT.1 228 14 = some (.bipush 117, ((0, 0), ([.int 117], []))) := (kT_228 14).trans rfl
theorem r_228_16 : xT.1 228 16 = some (.iastore, ((0, 0), ([], []))) := (kT_228 16).trans rfl
theorem r_228_17 : xT.1 228 17 = some (.aload_n 0, ((0, 0), ([], []))) := (kT_228 17).trans rfl
theorem r_228_18 : xT.1 228 18 = some (.bipush 117, ((0, 0), ([.int 117], []))) := (kT_228 18).trans rfl
theorem r_228_20 : xT.1 228 20 = some (.invokevirtual 168, ((223, 2), ([], [0]))) := (kT_228 20).trans rfl
theorem r_228_23 : xT.1 228 23 = some (.aload_n 0, ((0, 0), ([], []))) := (kT_228 23).trans rfl
theorem r_228_24 : xT.1 228 24 = some (.bipush 116, ((0, 0), ([.int 116], []))) := (kT_228 24).trans rfl
theorem r_228_26 : xT.1 228 26 = some (.invokevirtual 168, ((223, 2), ([], [0]))) := (kT_228 26).trans rfl
theorem r_228_29 : xT.1 228 29 = some (.goto 13, ((42, 0), ([], []))) := (kT_228 29).trans rfl
theorem r_228_32 : xT.1 228 32 = some (.aload_n 0, ((0, 0), ([], []))) := (kT_228 32).trans rfl
theorem r_228_33 : xT.1 228 33 = some (.bipush 112, ((0, 0), ([.int 112], []))) := (kT_228 33).trans rfl
theorem r_228_35 : xT.1 228 35 = some (.bipush 101, ((0, 0), ([.int 101], []))) := (kT_228 35).trans rfl
theorem r_228_37 : xT.1 228 37 = some (.bipush 110, ((0, 0), ([.int 110], []))) := (kT_228 37).trans rfl
theorem r_228_39 : xT.1 228 39 = some (.invokevirtual 178, ((224, 4), ([], [0]))) := (kT_228 39).trans rfl
theorem r_228_42 : xT.1 228 42 = some (.aload_n 0, ((0, 0), ([], []))) := (kT_228 42).trans rfl
theorem r_228_43 : xT.1 228 43 = some (.getfield 39, ((9, 16), ([], []))) := (kT_228 43).trans rfl
theorem r_228_46 : xT.1 228 46 = some (.iload_n 1, ((0, 0), ([], []))) := (kT_228 46).trans rfl
theorem r_228_47 : xT.1 228 47 = some (.iconst 1, ((0, 0), ([.int 1], []))) := (kT_228 47).trans rfl
theorem r_228_48 : xT.1 228 48 = some (.iadd, ((0, 0), ([], []))) := (kT_228 48).trans rfl
theorem r_228_49 : xT.1 228 49 = some (.aload_n 0, ((0, 0), ([], []))) := (kT_228 49).trans rfl
theorem r_228_50 : xT.1 228 50 = some (.bipush 32, ((0, 0), ([.int 32], []))) := (kT_228 50).trans rfl
theorem r_228_52 : xT.1 228 52 = some (.iconst 1, ((0, 0), ([.int 1], []))) := (kT_228 52).trans rfl
theorem r_228_53 : xT.1 228 53 = some (.invokevirtual 175, ((226, 3), ([], [0]))) := (kT_228 53).trans rfl
theorem r_228_56 : xT.1 228 56 = some (.iastore, ((0, 0), ([], []))) := (kT_228 56).trans rfl
theorem r_228_57 : xT.1 228 57 = some (.return_, ((0, 0), ([], []))) := (kT_228 57).trans rfl
theorem kT_229 (pc : Nat) : xT.1 229 pc = xfind k_229 pc := rfl
theorem r_229_0 : xT.1 229 0 = some (.aload_n 0, ((0, 0), ([], []))) := (kT_229 0).trans rfl
theorem r_229_1 : xT.1 229 1 = some (.invokevirtual 165, ((222, 1), ([], [0]))) := (kT_229 1).trans rfl
theorem r_229_4 : xT.1 229 4 = some (.istore_n 2, ((0, 0), ([], []))) := (kT_229 4).trans rfl
theorem r_229_5 : xT.1 229 5 = some (.aload_n 0, ((0, 0), ([], []))) := (kT_229 5).trans rfl
theorem r_229_6 : xT.1 229 6 = some (.dup, ((0, 0), ([], []))) := (kT_229 6).trans rfl
theorem r_229_7 : xT.1 229 7 = some (.getfield 158, ((9, 14), ([], []))) := (kT_229 7).trans rfl
theorem r_229_10 : xT.1 229 10 = some (.iconst 1, ((0, 0), ([.int 1], []))) := (kT_229 10).trans rfl
theorem r_229_11 : xT.1 229 11 = some (.iadd, ((0, 0), ([], []))) := (kT_229 11).trans rfl
theorem r_229_12 : xT.1 229 12 = some (.putfield 158, ((9, 14), ([], [0]))) := (kT_229 12).trans rfl
theorem r_229_15 : xT.1 229 15 = some (.aload_n 0, ((0, 0), ([], []))) := (kT_229 15).trans rfl
theorem r_229_16 : xT.1 229 16 = some (.getfield 39, ((9, 16), ([], []))) := (kT_229 16).trans rfl
theorem r_229_19 : xT.1 229 19 = some (.iload_n 1, ((0, 0), ([], []))) := (kT_229 19).trans rfl
theorem r_229_20 : xT.1 229 20 = some (.iload_n 2, ((0, 0), ([], []))) := (kT_229 20).trans rfl
theorem r_229_21 : xT.1 229 21 = some (.iastore, ((0, 0), ([], []))) := (kT_229 21).trans rfl
theorem r_229_22 : xT.1 229 22 = some (.iload_n 2, ((0, 0), ([], []))) := (kT_229 22).trans rfl
theorem r_229_23 : xT.1 229 23 = some (.lookupswitch 149 #[(98, 82), (108, 130), (111, 74), (112, 49), (115, 90)], ((172, 49), ([], [105, 153, 97, 72, 113]))) := (kT_229 23).trans rfl
theorem r_229_72 : xT.1 229 72 = some (.aload_n 0, ((0, 0), ([], []))) := (kT_229 72).trans rfl
theorem r_229_73 : xT.1 229 73 = some (.bipush 108, ((0, 0), ([.int 108], []))) := (kT_229 73).trans rfl
theorem r_229_75 : xT.1 229 75 = some (.bipush 97, ((0, 0), ([.int 97], []))) := (kT_229 75).trans rfl
theorem r_229_77 : xT.1 229 77 = some (.bipush 121, ((0, 0), ([.int 121], []))) := (kT_229 77).trans rfl
theorem r_229_79 : xT.1 229 79 = some (.invokevirtual 178, ((224, 4), ([], [0]))) := (kT_229 79).trans rfl
theorem r_229_82 : xT.1 229 82 = some (.aload_n 0, ((0, 0), ([], []))) := (kT_229 82).trans rfl
theorem r_229_83 : xT.1 229 83 = some (.bipush 101, ((0, 0), ([.int 101], []))) := (kT_229 83).trans rfl
theorem r_229_85 : xT.1 229 85 = some (.invokevirtual 168, ((223, 2), ([], [0]))) := (kT_229 85).trans rfl
theorem r_229_88 : xT.1 229 88 = some (.aload_n 0, ((0, 0), ([], []))) := (kT_229 88).trans rfl
theorem r_229_89 : xT.1 229 89 = some (.bipush 114, ((0, 0), ([.int 114], []))) := (kT_229 89).trans rfl
theorem r_229_91 : xT.1 229 91 = some (.invokevirtual 168, ((223, 2), ([], [0]))) := (kT_229 91).trans rfl
theorem r_229_94 : xT.1 229 94 = some (.goto 93, ((187, 0), ([], []))) := (kT_229 94).trans rfl
theorem r_229_97 : xT.1 229 97 = some (.aload_n 0, ((0, 0), ([], []))) := (kT_229 97).trans rfl
theorem r_229_98 : xT.1 229 98 = some (.iload_n 1, ((0, 0), ([], []))) := (kT_229 98).trans rfl
theorem r_229_99 : xT.1 229 99 = some (.invokevirtual 182, ((228, 2), ([], [0]))) := (kT_229 99).trans rfl
theorem r_229_102 : xT.1 229 102 = some (.goto 85, ((187, 0), ([], []))) := (kT_229 102).trans rfl
theorem r_229_105 : xT.1 229 105 = some (.aload_n 0, ((0, 0), ([], []))) := (kT_229 105).trans rfl
theorem r_229_106 : xT.1 229 106 = some (.iload_n 1, ((0, 0), ([], []))) := (kT_229 106).trans rfl
theorem r_229_107 : xT.1 229 107 = some (.invokevirtual 185, ((227, 2), ([], [0]))) := (kT_229 107).trans rfl
theorem r_229_110 : xT.1 229 110 = some (.goto 77, ((187, 0), ([], []))) := (kT_229 110).trans rfl
theorem r_229_113 : xT.1 229 113 = some (.aload_n 0, ((0, 0), ([], []))) := (kT_229 113).trans rfl
theorem r_229_114 : xT.1 229 114 = some (.bipush 101, ((0, 0), ([.int 101], []))) := (kT_229 114).trans rfl
theorem r_229_116 : xT.1 229 116 = some (.bipush 116, ((0, 0), ([.int 116], []))) := (kT_229 116).trans rfl
theorem r_229_118 : xT.1 229 118 = some (.bipush 116, ((0, 0), ([.int 116], []))) := (kT_229 118).trans rfl
theorem r_229_120 : xT.1 229 120 = some (.invokevirtual 178, ((224, 4), ([], [0]))) := (kT_229 120).trans rfl
theorem r_229_123 : xT.1 229 123 = some (.aload_n 0, ((0, 0), ([], []))) := (kT_229 123).trans rfl
theorem r_229_124 : xT.1 229 124 = some (.bipush 108, ((0, 0), ([.int 108], []))) := (kT_229 124).trans rfl
theorem r_229_126 : xT.1 229 126 = some (.invokevirtual 168, ((223, 2), ([], [0]))) := (kT_229 126).trans rfl
theorem r_229_129 : xT.1 229 129 = some (.aload_n 0, ((0, 0), ([], []))) := (kT_229 129).trans rfl
theorem r_229_130 : xT.1 229 130 = some (.bipush 101, ((0, 0), ([.int 101], []))) := (kT_229 130).trans rfl
theorem r_229_132 : xT.1 229 132 = some (.invokevirtual 168, ((223, 2), ([], [0]))) := (kT_229 132).trans rfl
theorem r_229_135 : xT.1 229 135 = some (.aload_n 0, ((0, 0), ([], []))) := (kT_229 135).trans rfl
theorem r_229_136 : xT.1 229 136 = some (.getfield 39, ((9, 16), ([], []))) := (kT_229 136).trans rfl
theorem r_229_139 : xT.1 229 139 = some (.iload_n 1, ((0, 0), ([], []))) := (kT_229 139).trans rfl
theorem r_229_140 : xT.1 229 140 = some (.iconst 1, ((0, 0), ([.int 1], []))) := (kT_229 140).trans rfl
theorem r_229_141 : xT.1 229 141 = some (.iadd, ((0, 0), ([], []))) := (kT_229 141).trans rfl
theorem r_229_142 : xT.1 229 142 = some (.aload_n 0, ((0, 0), ([], []))) := (kT_229 142).trans rfl
theorem r_229_143 : xT.1 229 143 = some (.bipush 32, ((0, 0), ([.int 32], []))) := (kT_229 143).trans rfl
theorem r_229_145 : xT.1 229 145 = some (.iconst 3, ((0, 0), ([.int 3], []))) := (kT_229 145).trans rfl
theorem r_229_146 : xT.1 229 146 = some (.invokevirtual 175, ((226, 3), ([], [0]))) := (kT_229 146).trans rfl
theorem r_229_149 : xT.1 229 149 = some (.iastore, ((0, 0), ([], []))) := (kT_229 149).trans rfl
theorem r_229_150 : xT.1 229 150 = some (.goto 37, ((187, 0), ([], []))) := (kT_229 150).trans rfl
theorem r_229_153 : xT.1 229 153 = some (.aload_n 0, ((0, 0), ([], []))) := (kT_229 153).trans rfl
theorem r_229_154 : xT.1 229 154 = some (.bipush 97, ((0, 0), ([.int 97], []))) := (kT_229 154).trans rfl
theorem r_229_156 : xT.1 229 156 = some (.bipush 116, ((0, 0), ([.int 116], []))) := (kT_229 156).trans rfl
theorem r_229_158 : xT.1 229 158 = some (.bipush 101, ((0, 0), ([.int 101], []))) := (kT_229 158).trans rfl
theorem r_229_160 : xT.1 229 160 = some (.invokevirtual 178, ((224, 4), ([], [0]))) := (kT_229 160).trans rfl
theorem r_229_163 : xT.1 229 163 = some (.aload_n 0, ((0, 0), ([], []))) := (kT_229 163).trans rfl
theorem r_229_164 : xT.1 229 164 = some (.bipush 114, ((0, 0), ([.int 114], []))) := (kT_229 164).trans rfl
theorem r_229_166 : xT.1 229 166 = some (.invokevirtual 168, ((223, 2), ([], [0]))) := (kT_229 166).trans rfl
theorem r_229_169 : xT.1 229 169 = some (.goto 18, ((187, 0), ([], []))) := (kT_229 169).trans rfl
theorem r_229_172 : xT.1 229 172 = some (.aload_n 0, ((0, 0), ([], []))) := (kT_229 172).trans rfl
theorem r_229_173 : xT.1 229 173 = some (.iconst 1, ((0, 0), ([.int 1], []))) := (kT_229 173).trans rfl
theorem r_229_174 : xT.1 229 174 = some (.putfield 161, ((9, 15), ([], [1]))) := (kT_229 174).trans rfl
theorem r_229_177 : xT.1 229 177 = some (.aload_n 0, ((0, 0), ([], []))) := (kT_229 177).trans rfl
theorem r_229_178 : xT.1 229 178 = some (.dup, ((0, 0), ([], []))) := (kT_229 178).trans rfl
theorem r_229_179 : xT.1 229 179 = some (.getfield 158, ((9, 14), ([], []))) := (kT_229 179).trans rfl
theorem r_229_182 : xT.1 229 182 = some (.iconst 1, ((0, 0), ([.int 1], []))) := (kT_229 182).trans rfl
theorem r_229_183 : xT.1 229 183 = some (.isub, ((0, 0), ([], []))) := (kT_229 183).trans rfl
theorem r_229_184 : xT.1 229 184 = some (.putfield 158, ((9, 14), ([], [0]))) := (kT_229 184).trans rfl
theorem r_229_187 : xT.1 229 187 = some (.return_, ((0, 0), ([], []))) := (kT_229 187).trans rfl
theorem kT_230 (pc : Nat) : xT.1 230 pc = xfind k_230 pc := rfl
theorem r_230_0 : xT.1 230 0 = some (.aload_n 0, ((0, 0), ([], []))) := (kT_230 0).trans rfl
theorem r_230_1 : xT.1 230 1 = some (.getfield 39, ((9, 16), ([], []))) := (kT_230 1).trans rfl
theorem r_230_4 : xT.1 230 4 = some (.iload_n 1, ((0, 0), ([], []))) := (kT_230 4).trans rfl
theorem r_230_5 : xT.1 230 5 = some (.iconst 1, ((0, 0), ([.int 1], []))) := (kT_230 5).trans rfl
theorem r_230_6 : xT.1 230 6 = some (.iadd, ((0, 0), ([], []))) := (kT_230 6).trans rfl
theorem r_230_7 : xT.1 230 7 = some (.iaload, ((0, 0), ([], []))) := (kT_230 7).trans rfl
theorem r_230_8 : xT.1 230 8 = some (.istore_n 2, ((0, 0), ([], []))) := (kT_230 8).trans rfl
theorem r_230_9 : xT.1 230 9 = some (.aload_n 0, ((0, 0), ([], []))) := (kT_230 9).trans rfl
theorem r_230_10 : xT.1 230 10 = some (.getfield 39, ((9, 16), ([], []))) := (kT_230 10).trans rfl
theorem r_230_13 : xT.1 230 13 = some (.iload_n 1, ((0, 0), ([], []))) := (kT_230 13).trans rfl
theorem r_230_14 : xT.1 230 14 = some (.iaload, ((0, 0), ([], []))) := (kT_230 14).trans rfl
theorem r_230_15 : xT.1 230 15 = some (.lookupswitch 118 #[(98, 60), (108, 113), (111, 54), (112, 49), (115, 107)], ((133, 49), ([], [75, 128, 69, 64, 122]))) := (kT_230 15).trans rfl
theorem r_230_64 : xT.1 230 64 = some (.aload_n 0, ((0, 0), ([], []))) := (kT_230 64).trans rfl
theorem r_230_65 : xT.1 230 65 = some (.invokevirtual 70, ((161, 1), ([], [0]))) := (kT_230 65).trans rfl
theorem r_230_68 : xT.1 230 68 = some (.ireturn, ((0, 0), ([], []))) := (kT_230 68).trans rfl
theorem r_230_69 : xT.1 230 69 = some (.aload_n 0, ((0, 0), ([], []))) := (kT_230 69).trans rfl
theorem r_230_70 : xT.1 230 70 = some (.iload_n 2, ((0, 0), ([], []))) := (kT_230 70).trans rfl
theorem r_230_71 : xT.1 230 71 = some (.invokevirtual 77, ((163, 2), ([], [0]))) := (kT_230 71).trans rfl
theorem r_230_74 : xT.1 230 74 = some (.ireturn, ((0, 0), ([], []))) := (kT_230 74).trans rfl
theorem r_230_75 : xT.1 230 75 = some (.aload_n 0, ((0, 0), ([], []))) := (kT_230 75).trans rfl
theorem r_230_76 : xT.1 230 76 = some (.iload_n 2, ((0, 0), ([], []))) := (kT_230 76).trans rfl
theorem r_230_77 : xT.1 230 77 = some (.aload_n 0, ((0, 0), ([], []))) := (kT_230 77).trans rfl
theorem r_230_78 : xT.1 230 78 = some (.getfield 39, ((9, 16), ([], []))) := (kT_230 78).trans rfl
theorem r_230_81 : xT.1 230 81 = some (.iload_n 1, ((0, 0), ([], []))) := (kT_230 81).trans rfl
theorem r_230_82 : xT.1 230 82 = some (.iconst 2, ((0, 0), ([.int 2], []))) := (kT_230 82).trans rfl
theorem r_230_83 : xT.1 230 83 = some (.iadd, ((0, 0), ([], []))) := (kT_230 83).trans rfl
theorem r_230_84 : xT.1 230 84 = some (.iaload, ((0, 0), ([], []))) := (kT_230 84).trans rfl
theorem r_230_85 : xT.1 230 85 = some (.aload_n 0, ((0, 0), ([], []))) := (kT_230 85).trans rfl
theorem r_230_86 : xT.1 230 86 = some (.getfield 39, ((9, 16), ([], []))) := (kT_230 86).trans rfl
theorem r_230_89 : xT.1 230 89 = some (.iload_n 1, ((0, 0), ([], []))) := (kT_230 89).trans rfl
theorem r_230_90 : xT.1 230 90 = some (.iconst 3, ((0, 0), ([.int 3], []))) := (kT_230 90).trans rfl
theorem r_230_91 : xT.1 230 91 = some (.iadd, ((0, 0), ([], []))) := (kT_230 91).trans rfl
theorem r_230_92 : xT.1 230 92 = some (.iaload, ((0, 0), ([], []))) := (kT_230 92).trans rfl
theorem r_230_93 : xT.1 230 93 = some (.aload_n 0, ((0, 0), ([], []))) := (kT_230 93).trans rfl
theorem r_230_94 : xT.1 230 94 = some (.getfield 39, ((9, 16), ([], []))) := (kT_230 94).trans rfl
theorem r_230_97 : xT.1 230 97 = some (.iload_n 1, ((0, 0), ([], []))) := (kT_230 97).trans rfl
theorem r_230_98 : xT.1 230 98 = some (.iconst 4, ((0, 0), ([.int 4], []))) := (kT_230 98).trans rfl
theorem r_230_99 : xT.1 230 99 = some (.iadd, ((0, 0), ([], []))) := (kT_230 99).trans rfl
theorem r_230_100 : xT.1 230 100 = some (.iaload, ((0, 0), ([], []))) := (kT_230 100).trans rfl
theorem r_230_101 : xT.1 230 101 = some (.aload_n 0, ((0, 0), ([], []))) := (kT_230 101).trans rfl
theorem r_230_102 : xT.1 230 102 = some (.getfield 39, ((9, 16), ([], []))) := (kT_230 102).trans rfl
theorem r_230_105 : xT.1 230 105 = some (.iload_n 1, ((0, 0), ([], []))) := (kT_230 105).trans rfl
theorem r_230_106 : xT.1 230 106 = some (.iconst 5, ((0, 0), ([.int 5], []))) := (kT_230 106).trans rfl
theorem r_230_107 : xT.1 230 107 = some (.iadd, ((0, 0), ([], []))) := (kT_230 107).trans rfl
theorem r_230_108 : xT.1 230 108 = some (.iaload, ((0, 0), ([], []))) := (kT_230 108).trans rfl
theorem r_230_109 : xT.1 230 109 = some (.aload_n 0, ((0, 0), ([], []))) := (kT_230 109).trans rfl
theorem r_230_110 : xT.1 230 110 = some (.getfield 39, ((9, 16), ([], []))) := (kT_230 110).trans rfl
theorem r_230_113 : xT.1 230 113 = some (.iload_n 1, ((0, 0), ([], []))) := (kT_230 113).trans rfl
theorem r_230_114 : xT.1 230 114 = some (.bipush 6, ((0, 0), ([.int 6], []))) := (kT_230 114).trans rfl
theorem r_230_116 : xT.1 230 116 = some (.iadd, ((0, 0), ([], []))) := (kT_230 116).trans rfl
theorem r_230_117 : xT.1 230 117 = some (.iaload, ((0, 0), ([], []))) := (kT_230 117).trans rfl
theorem r_230_118 : xT.1 230 118 = some (.invokevirtual 94, ((166, 7), ([], [0]))) := (kT_230 118).trans rfl
theorem r_230_121 : xT.1 230 121 = some (.ireturn, ((0, 0), ([], []))) := (kT_230 121).trans rfl
theorem r_230_122 : xT.1 230 122 = some (.aload_n 0, ((0, 0), ([], []))) := (kT_230 122).trans rfl
theorem r_230_123 : xT.1 230 123 = some (.iload_n 2, ((0, 0), ([], []))) := (kT_230 123).trans rfl
theorem r_230_124 : xT.1 230 124 = some (.invokevirtual 112, ((172, 2), ([], [0]))) := (kT_230 124).trans rfl
theorem r_230_127 : xT.1 230 127 = some (.ireturn, ((0, 0), ([], []))) := (kT_230 127).trans rfl
theorem r_230_128 : xT.1 230 128 = some (.aload_n 0, ((0, 0), ([], []))) := (kT_230 128).trans rfl
theorem r_230_129 : xT.1 230 129 = some (.invokevirtual 115, ((174, 1), ([], [0]))) := (kT_230 129).trans rfl
theorem r_230_132 : xT.1 230 132 = some (.ireturn, ((0, 0), ([], []))) := (kT_230 132).trans rfl
theorem r_230_133 : xT.1 230 133 = some (.aload_n 0, ((0, 0), ([], []))) := (kT_230 133).trans rfl
theorem r_230_134 : xT.1 230 134 = some (.iload_n 2, ((0, 0), ([], []))) := (kT_230 134).trans rfl
theorem r_230_135 : xT.1 230 135 = some (.invokevirtual 121, ((177, 2), ([], [0]))) := (kT_230 135).trans rfl
theorem r_230_138 : xT.1 230 138 = some (.ireturn, ((0, 0), ([], []))) := (kT_230 138).trans rfl
theorem kT_231 (pc : Nat) : xT.1 231 pc = xfind k_231 pc := rfl
theorem r_231_0 : xT.1 231 0 = some (.aload_n 0, ((0, 0), ([], []))) := (kT_231 0).trans rfl
theorem r_231_1 : xT.1 231 1 = some (.iconst 0, ((0, 0), ([.int 0], []))) := (kT_231 1).trans rfl
theorem r_231_2 : xT.1 231 2 = some (.putfield 158, ((9, 14), ([], [0]))) := (kT_231 2).trans rfl
theorem r_231_5 : xT.1 231 5 = some (.aload_n 0, ((0, 0), ([], []))) := (kT_231 5).trans rfl
theorem r_231_6 : xT.1 231 6 = some (.iconst 0, ((0, 0), ([.int 0], []))) := (kT_231 6).trans rfl
theorem r_231_7 : xT.1 231 7 = some (.putfield 161, ((9, 15), ([], [1]))) := (kT_231 7).trans rfl
theorem r_231_10 : xT.1 231 10 = some (.iconst 0, ((0, 0), ([.int 0], []))) := (kT_231 10).trans rfl
theorem r_231_11 : xT.1 231 11 = some (.istore_n 1, ((0, 0), ([], []))) := (kT_231 11).trans rfl
theorem r_231_12 : xT.1 231 12 = some (.iconst 1, ((0, 0), ([.int 1], []))) := (kT_231 12).trans rfl
theorem r_231_13 : xT.1 231 13 = some (.istore_n 2, ((0, 0), ([], []))) := (kT_231 13).trans rfl
theorem r_231_14 : xT.1 231 14 = some (.iload_n 2, ((0, 0), ([], []))) := (kT_231 14).trans rfl
theorem r_231_15 : xT.1 231 15 = some (.ifCond .eq 57, ((72, 0), ([], []))) := (kT_231 15).trans rfl
theorem r_231_18 : xT.1 231 18 = some (.aload_n 0, ((0, 0), ([], []))) := (kT_231 18).trans rfl
theorem r_231_19 : xT.1 231 19 = some (.bipush 7, ((0, 0), ([.int 7], []))) := (kT_231 19).trans rfl
theorem r_231_21 : xT.1 231 21 = some (.iload_n 1, ((0, 0), ([], []))) := (kT_231 21).trans rfl
theorem r_231_22 : xT.1 231 22 = some (.imul, ((0, 0), ([], []))) := (kT_231 22).trans rfl
theorem r_231_23 : xT.1 231 23 = some (.invokevirtual 188, ((229, 2), ([], [0]))) := (kT_231 23).trans rfl
theorem r_231_26 : xT.1 231 26 = some (.iinc 1 1, ((0, 0), ([.int (1)], []))) := (kT_231 26).trans rfl
theorem r_231_29 : xT.1 231 29 = some (.aload_n 0, ((0, 0), ([], []))) := (kT_231 29).trans rfl
theorem r_231_30 : xT.1 231 30 = some (.getfield 161, ((9, 15), ([], []))) := (kT_231 30).trans rfl
theorem r_231_33 : xT.1 231 33 = some (.ifCond .ne 16, ((49, 0), ([], []))) := (kT_231 33).trans rfl
theorem r_231_36 : xT.1 231 36 = some (.aload_n 0, ((0, 0), ([], []))) := (kT_231 36).trans rfl
theorem r_231_37 : xT.1 231 37 = some (.invokevirtual 165, ((222, 1), ([], [0]))) := (kT_231 37).trans rfl
theorem r_231_40 : xT.1 231 40 = some (.bipush 59, ((0, 0), ([.int 59], []))) := (kT_231 40).trans rfl
theorem r_231_42 : xT.1 231 42 = some (.if_icmp .ne 7, ((49, 0), ([], []))) := (kT_231 42).trans rfl
theorem r_231_45 : xT.1 231 45 = some (.iconst 1, ((0, 0), ([.int 1], []))) := (kT_231 45).trans rfl
theorem r_231_46 : xT.1 231 46 = some (.goto 4, ((50, 0), ([], []))) := (kT_231 46).trans rfl
theorem r_231_49 : xT.1 231 49 = some (.iconst 0, ((0, 0), ([.int 0], []))) := (kT_231 49).trans rfl
theorem r_231_50 : xT.1 231 50 = some (.istore_n 2, ((0, 0), ([], []))) := (kT_231 50).trans rfl
theorem r_231_51 : xT.1 231 51 = some (.aload_n 0, ((0, 0), ([], []))) := (kT_231 51).trans rfl
theorem r_231_52 : xT.1 231 52 = some (.dup, ((0, 0), ([], []))) := (kT_231 52).trans rfl
theorem r_231_53 : xT.1 231 53 = some (.getfield 158, ((9, 14), ([], []))) := (kT_231 53).trans rfl
theorem r_231_56 : xT.1 231 56 = some (.iload_n 2, ((0, 0), ([], []))) := (kT_231 56).trans rfl
theorem r_231_57 : xT.1 231 57 = some (.ifCond .eq 7, ((64, 0), ([], []))) := (kT_231 57).trans rfl
theorem r_231_60 : xT.1 231 60 = some (.iconst 1, ((0, 0), ([.int 1], []))) := (kT_231 60).trans rfl
theorem r_231_61 : xT.1 231 61 = some (.goto 4, ((65, 0), ([], []))) := (kT_231 61).trans rfl
theorem r_231_64 : xT.1 231 64 = some (.iconst 0, ((0, 0), ([.int 0], []))) := (kT_231 64).trans rfl
theorem r_231_65 : xT.1 231 65 = some (.iadd, ((0, 0), ([], []))) := (kT_231 65).trans rfl
theorem r_231_66 : xT.1 231 66 = some (.putfield 158, ((9, 14), ([], [0]))) := (kT_231 66).trans rfl
theorem r_231_69 : xT.1 231 69 = some (.goto (-55), ((14, 0), ([], []))) := (kT_231 69).trans rfl
theorem r_231_72 : xT.1 231 72 = some (.aload_n 0, ((0, 0), ([], []))) := (kT_231 72).trans rfl
theorem r_231_73 : xT.1 231 73 = some (.aload_n 0, ((0, 0), ([], []))) := (kT_231 73).trans rfl
theorem r_231_74 : xT.1 231 74 = some (.getfield 161, ((9, 15), ([], []))) := (kT_231 74).trans rfl
theorem r_231_77 : xT.1 231 77 = some (.ifCond .ne 14, ((91, 0), ([], []))) := (kT_231 77).trans rfl
theorem r_231_80 : xT.1 231 80 = some (.aload_n 0, ((0, 0), ([], []))) := (kT_231 80).trans rfl
theorem r_231_81 : xT.1 231 81 = some (.getfield 158, ((9, 14), ([], []))) := (kT_231 81).trans rfl
theorem r_231_84 : xT.1 231 84 = some (.aload_n 0, ((0, 0), ([], []))) := (kT_231 84).trans rfl
theorem r_231_85 : xT.1 231 85 = some (.getfield 155, ((9, 7), ([], []))) := (kT_231 85).trans rfl
theorem r_231_88 : xT.1 231 88 = some (.if_icmp .ge 7, ((95, 0), ([], []))) := (kT_231 88).trans rfl
theorem r_231_91 : xT.1 231 91 = some (.iconst 1, ((0, 0), ([.int 1], []))) := (kT_231 91).trans rfl
theorem r_231_92 : xT.1 231 92 = some (.goto 4, ((96, 0), ([], []))) := (kT_231 92).trans rfl
theorem r_231_95 : xT.1 231 95 = some (.iconst 0, ((0, 0), ([.int 0], []))) := (kT_231 95).trans rfl
theorem r_231_96 : xT.1 231 96 = some (.putfield 161, ((9, 15), ([], [1]))) := (kT_231 96).trans rfl
theorem r_231_99 : xT.1 231 99 = some (.aload_n 0, ((0, 0), ([], []))) := (kT_231 99).trans rfl
theorem r_231_100 : xT.1 231 100 = some (.iconst 0, ((0, 0), ([.int 0], []))) := (kT_231 100).trans rfl
theorem r_231_101 : xT.1 231 101 = some (.putfield 155, ((9, 7), ([], [0]))) := (kT_231 101).trans rfl
theorem r_231_104 : xT.1 231 104 = some (.aload_n 0, ((0, 0), ([], []))) := (kT_231 104).trans rfl
theorem r_231_105 : xT.1 231 105 = some (.getfield 161, ((9, 15), ([], []))) := (kT_231 105).trans rfl
theorem r_231_108 : xT.1 231 108 = some (.ifCond .eq 17, ((125, 0), ([], []))) := (kT_231 108).trans rfl
theorem r_231_111 : xT.1 231 111 = some (.aload_n 0, ((0, 0), ([], []))) := (kT_231 111).trans rfl
theorem r_231_112 : xT.1 231 112 = some (.aload_n 0, ((0, 0), ([], []))) := (kT_231 112).trans rfl
theorem r_231_113 : xT.1 231 113 = some (.getfield 158, ((9, 14), ([], []))) := (kT_231 113).trans rfl
theorem r_231_116 : xT.1 231 116 = some (.putfield 26, ((9, 8), ([], [0]))) := (kT_231 116).trans rfl
theorem r_231_119 : xT.1 231 119 = some (.aload_n 0, ((0, 0), ([], []))) := (kT_231 119).trans rfl
theorem r_231_120 : xT.1 231 120 = some (.iconst 1, ((0, 0), ([.int 1], []))) := (kT_231 120).trans rfl
theorem r_231_121 : xT.1 231 121 = some (.invokevirtual 60, ((153, 2), ([], [0]))) := (kT_231 121).trans rfl
theorem r_231_124 : xT.1 231 124 = some (.ireturn, ((0, 0), ([], []))) := (kT_231 124).trans rfl
theorem r_231_125 : xT.1 231 125 = some (.aload_n 0, ((0, 0), ([], []))) := (kT_231 125).trans rfl
theorem r_231_126 : xT.1 231 126 = some (.invokevirtual 67, ((155, 1), ([], [0]))) := (kT_231 126).trans rfl
theorem r_231_129 : xT.1 231 129 = some (.iconst 0, ((0, 0), ([.int 0], []))) := (kT_231 129).trans rfl
theorem r_231_130 : xT.1 231 130 = some (.istore_n 3, ((0, 0), ([], []))) := (kT_231 130).trans rfl
theorem r_231_131 : xT.1 231 131 = some (.iload_n 3, ((0, 0), ([], []))) := (kT_231 131).trans rfl
theorem r_231_132 : xT.1 231 132 = some (.iload_n 1, ((0, 0), ([], []))) := (kT_231 132).trans rfl
theorem r_231_133 : xT.1 231 133 = some (.if_icmp .ge 43, ((176, 0), ([], []))) := (kT_231 133).trans rfl
theorem r_231_136 : xT.1 231 136 = some (.aload_n 0, ((0, 0), ([], []))) := (kT_231 136).trans rfl
theorem r_231_137 : xT.1 231 137 = some (.bipush 7, ((0, 0), ([.int 7], []))) := (kT_231 137).trans rfl
theorem r_231_139 : xT.1 231 139 = some (.iload_n 3, ((0, 0), ([], []))) := (kT_231 139).trans rfl
theorem r_231_140 : xT.1 231 140 = some (.imul, ((0, 0), ([], []))) := (kT_231 140).trans rfl
theorem r_231_141 : xT.1 231 141 = some (.invokevirtual 191, ((230, 2), ([], [0]))) := (kT_231 141).trans rfl
theorem r_231_144 : xT.1 231 144 = some (.istore 4, ((0, 0), ([], []))) := (kT_231 144).trans rfl
theorem r_231_146 : xT.1 231 146 = some (.aload_n 0, ((0, 0), ([], []))) := (kT_231 146).trans rfl
theorem r_231_147 : xT.1 231 147 = some (.getfield 42, ((9, 12), ([], []))) := (kT_231 147).trans rfl
theorem r_231_150 : xT.1 231 150 = some (.ifCond .eq 20, ((170, 0), ([], []))) := (kT_231 150).trans rfl
theorem r_231_153 : xT.1 231 153 = some (.aload_n 0, ((0, 0), ([], []))) := (kT_231 153).trans rfl
theorem r_231_154 : xT.1 231 154 = some (.iload_n 3, ((0, 0), ([], []))) := (kT_231 154).trans rfl
theorem r_231_155 : xT.1 231 155 = some (.putfield 30, ((9, 9), ([], [0]))) := (kT_231 155).trans rfl
theorem r_231_158 : xT.1 231 158 = some (.aload_n 0, ((0, 0), ([], []))) := (kT_231 158).trans rfl
theorem r_231_159 : xT.1 231 159 = some (.iconst 2, ((0, 0), ([.int 2], []))) := (kT_231 159).trans rfl
theorem r_231_160 : xT.1 231 160 = some (.putfield 42, ((9, 12), ([], [0]))) := (kT_231 160).trans rfl
theorem r_231_163 : xT.1 231 163 = some (.aload_n 0, ((0, 0), ([], []))) := (kT_231 163).trans rfl
theorem r_231_164 : xT.1 231 164 = some (.iload 4, ((0, 0), ([], []))) := (kT_231 164).trans rfl
theorem r_231_166 : xT.1 231 166 = some (.invokevirtual 74, ((156, 2), ([], [0]))) := (kT_231 166).trans rfl
theorem r_231_169 : xT.1 231 169 = some (.ireturn, ((0, 0), ([], []))) := (kT_231 169).trans rfl
theorem r_231_170 : xT.1 231 170 = some (.iinc 3 1, ((0, 0), ([.int (1)], []))) := (kT_231 170).trans rfl
theorem r_231_173 : xT.1 231 173 = some (.goto (-42), ((131, 0), ([], []))) := (kT_231 173).trans rfl
theorem r_231_176 : xT.1 231 176 = some (.aload_n 0, ((0, 0), ([], []))) := (kT_231 176).trans rfl
theorem r_231_177 : xT.1 231 177 = some (.aload_n 0, ((0, 0), ([], []))) := (kT_231 177).trans rfl
theorem r_231_178 : xT.1 231 178 = some (.iload_n 1, ((0, 0), ([], []))) := (kT_231 178).trans rfl
theorem r_231_179 : xT.1 231 179 = some (.invokevirtual 64, ((152, 2), ([], [0]))) := (kT_231 179).trans rfl
theorem r_231_182 : xT.1 231 182 = some (.invokevirtual 74, ((156, 2), ([], [0]))) := (kT_231 182).trans rfl
theorem r_231_185 : xT.1 231 185 = some (.ireturn, ((0, 0), ([], []))) := (kT_231 185).trans rfl
theorem kT_232 (pc : Nat) : xT.1 232 pc = xfind k_232 pc := rfl
theorem r_232_0 : xT.1 232 0 = some (.aload_n 0, ((0, 0), ([], []))) := (kT_232 0).trans rfl
theorem r_232_1 : xT.1 232 1 = some (.getfield 26, ((9, 8), ([], []))) := (kT_232 1).trans rfl
theorem r_232_4 : xT.1 232 4 = some (.iconst (-1), ((0, 0), ([.int (-1)], []))) := (kT_232 4).trans rfl
theorem r_232_5 : xT.1 232 5 = some (.if_icmp .ne 11, ((16, 0), ([], []))) := (kT_232 5).trans rfl
theorem r_232_8 : xT.1 232 8 = some (.aload_n 0, ((0, 0), ([], []))) := (kT_232 8).trans rfl
theorem r_232_9 : xT.1 232 9 = some (.iconst 1, ((0, 0), ([.int 1], []))) := (kT_232 9).trans rfl
theorem r_232_10 : xT.1 232 10 = some (.invokevirtual 60, ((153, 2), ([], [0]))) := (kT_232 10).trans rfl
theorem r_232_13 : xT.1 232 13 = some (.goto 11, ((24, 0), ([], []))) := (kT_232 13).trans rfl
theorem r_232_16 : xT.1 232 16 = some (.aload_n 0, ((0, 0), ([], []))) := (kT_232 16).trans rfl
theorem r_232_17 : xT.1 232 17 = some (.aload_n 0, ((0, 0), ([], []))) := (kT_232 17).trans rfl
theorem r_232_18 : xT.1 232 18 = some (.getfield 26, ((9, 8), ([], []))) := (kT_232 18).trans rfl
theorem r_232_21 : xT.1 232 21 = some (.invokevirtual 64, ((152, 2), ([], [0]))) := (kT_232 21).trans rfl
theorem r_232_24 : xT.1 232 24 = some (.ireturn, ((0, 0), ([], []))) := (kT_232 24).trans rfl
theorem kT_233 (pc : Nat) : xT.1 233 pc = xfind k_233 pc := rfl
theorem r_233_0 : xT.1 233 0 = some (.aload_n 0, ((0, 0), ([], []))) := (kT_233 0).trans rfl
theorem r_233_1 : xT.1 233 1 = some (.getfield 30, ((9, 9), ([], []))) := (kT_233 1).trans rfl
theorem r_233_4 : xT.1 233 4 = some (.iconst (-1), ((0, 0), ([.int (-1)], []))) := (kT_233 4).trans rfl
theorem r_233_5 : xT.1 233 5 = some (.if_icmp .ne 11, ((16, 0), ([], []))) := (kT_233 5).trans rfl
theorem r_233_8 : xT.1 233 8 = some (.aload_n 0, ((0, 0), ([], []))) := (kT_233 8).trans rfl
theorem r_233_9 : xT.1 233 9 = some (.iconst 1, ((0, 0), ([.int 1], []))) := (kT_233 9).trans rfl
theorem r_233_10 : xT.1 233 10 = some (.invokevirtual 60, ((153, 2), ([], [0]))) := (kT_233 10).trans rfl
theorem r_233_13 : xT.1 233 13 = some (.goto 11, ((24, 0), ([], []))) := (kT_233 13).trans rfl
theorem r_233_16 : xT.1 233 16 = some (.aload_n 0, ((0, 0), ([], []))) := (kT_233 16).trans rfl
theorem r_233_17 : xT.1 233 17 = some (.aload_n 0, ((0, 0), ([], []))) := (kT_233 17).trans rfl
theorem r_233_18 : xT.1 233 18 = some (.getfield 30, ((9, 9), ([], []))) := (kT_233 18).trans rfl
theorem r_233_21 : xT.1 233 21 = some (.invokevirtual 64, ((152, 2), ([], [0]))) := (kT_233 21).trans rfl
theorem r_233_24 : xT.1 233 24 = some (.ireturn, ((0, 0), ([], []))) := (kT_233 24).trans rfl
theorem kT_234 (pc : Nat) : xT.1 234 pc = xfind k_234 pc := rfl
theorem r_234_0 : xT.1 234 0 = some (.aload_n 0, ((0, 0), ([], []))) := (kT_234 0).trans rfl
theorem r_234_1 : xT.1 234 1 = some (.getfield 33, ((9, 10), ([], []))) := (kT_234 1).trans rfl
theorem r_234_4 : xT.1 234 4 = some (.aload_n 0, ((0, 0), ([], []))) := (kT_234 4).trans rfl
theorem r_234_5 : xT.1 234 5 = some (.getfield 194, ((9, 11), ([], []))) := (kT_234 5).trans rfl
theorem r_234_8 : xT.1 234 8 = some (.iload_n 1, ((0, 0), ([], []))) := (kT_234 8).trans rfl
theorem r_234_9 : xT.1 234 9 = some (.i2c, ((0, 0), ([], []))) := (kT_234 9).trans rfl
theorem r_234_10 : xT.1 234 10 = some (.castore, ((0, 0), ([], []))) := (kT_234 10).trans rfl
theorem r_234_11 : xT.1 234 11 = some (.aload_n 0, ((0, 0), ([], []))) := (kT_234 11).trans rfl
theorem r_234_12 : xT.1 234 12 = some (.dup, ((0, 0), ([], []))) := (kT_234 12).trans rfl
theorem r_234_13 : xT.1 234 13 = some (.getfield 194, ((9, 11), ([], []))) := (kT_234 13).trans rfl
theorem r_234_16 : xT.1 234 16 = some (.iconst 1, ((0, 0), ([.int 1], []))) := (kT_234 16).trans rfl
theorem r_234_17 : xT.1 234 17 = some (.iadd, ((0, 0), ([], []))) := (kT_234 17).trans rfl
theorem r_234_18 : xT.1 234 18 = some (.putfield 194, ((9, 11), ([], [0]))) := (kT_234 18).trans rfl
theorem r_234_21 : xT.1 234 21 = some (.return_, ((0, 0), ([], []))) := (kT_234 21).trans rfl
theorem kT_235 (pc : Nat) : xT.1 235 pc = xfind k_235 pc := rfl
theorem r_235_0 : xT.1 235 0 = some (.sipush 1000, ((0, 0), ([.int 1000], []))) := (kT_235 0).trans rfl
theorem r_235_3 : xT.1 235 3 = some (.istore_n 2, ((0, 0), ([], []))) := (kT_235 3).trans rfl
theorem r_235_4 : xT.1 235 4 = some (.iload_n 2, ((0, 0), ([], []))) := (kT_235 4).trans rfl
theorem r_235_5 : xT.1 235 5 = some (.iconst 1, ((0, 0), ([.int 1], []))) := (kT_235 5).trans rfl
theorem r_235_6 : xT.1 235 6 = some (.if_icmp .le 16, ((22, 0), ([], []))) := (kT_235 6).trans rfl
theorem r_235_9 : xT.1 235 9 = some (.iload_n 1, ((0, 0), ([], []))) := (kT_235 9).trans rfl
theorem r_235_10 : xT.1 235 10 = some (.iload_n 2, ((0, 0), ([], []))) := (kT_235 10).trans rfl
theorem r_235_11 : xT.1 235 11 = some (.if_icmp .ge 11, ((22, 0), ([], []))) := (kT_235 11).trans rfl
theorem r_235_14 : xT.1 235 14 = some (.iload_n 2, ((0, 0), ([], []))) := (kT_235 14).trans rfl
theorem r_235_15 : xT.1 235 15 = some (.bipush 10, ((0, 0), ([.int 10], []))) := (kT_235 15).trans rfl
theorem r_235_17 : xT.1 235 17 = some (.idiv, ((0, 0), ([], []))) := (kT_235 17).trans rfl
theorem r_235_18 : xT.1 235 18 = some (.istore_n 2, ((0, 0), ([], []))) := (kT_235 18).trans rfl
theorem r_235_19 : xT.1 235 19 = some (.goto (-15), ((4, 0), ([], []))) := (kT_235 19).trans rfl
theorem r_235_22 : xT.1 235 22 = some (.iload_n 2, ((0, 0), ([], []))) := (kT_235 22).trans rfl
theorem r_235_23 : xT.1 235 23 = some (.ifCond .le 24, ((47, 0), ([], []))) := (kT_235 23).trans rfl
theorem r_235_26 : xT.1 235 26 = some (.aload_n 0, ((0, 0), ([], []))) := (kT_235 26).trans rfl
theorem r_235_27 : xT.1 235 27 = some (.bipush 48, ((0, 0), ([.int 48], []))) := (kT_235 27).trans rfl
theorem r_235_29 : xT.1 235 29 = some (.iload_n 1, ((0, 0), ([], []))) := (kT_235 29).trans rfl
theorem r_235_30 : xT.1 235 30 = some (.iload_n 2, ((0, 0), ([], []))) := (kT_235 30).trans rfl
theorem r_235_31 : xT.1 235 31 = some (.idiv, ((0, 0), ([], []))) := (kT_235 31).trans rfl
theorem r_235_32 : xT.1 235 32 = some (.bipush 10, ((0, 0), ([.int 10], []))) := (kT_235 32).trans rfl
theorem r_235_34 : xT.1 235 34 = some (.irem, ((0, 0), ([], []))) := (kT_235 34).trans rfl
theorem r_235_35 : xT.1 235 35 = some (.iadd, ((0, 0), ([], []))) := (kT_235 35).trans rfl
theorem r_235_36 : xT.1 235 36 = some (.invokevirtual 197, ((234, 2), ([], [0]))) := (kT_235 36).trans rfl
theorem r_235_39 : xT.1 235 39 = some (.iload_n 2, ((0, 0), ([], []))) := (kT_235 39).trans rfl
theorem r_235_40 : xT.1 235 40 = some (.bipush 10, ((0, 0), ([.int 10], []))) := (kT_235 40).trans rfl
theorem r_235_42 : xT.1 235 42 = some (.idiv, ((0, 0), ([], []))) := (kT_235 42).trans rfl
theorem r_235_43 : xT.1 235 43 = some (.istore_n 2, ((0, 0), ([], []))) := (kT_235 43).trans rfl
theorem r_235_44 : xT.1 235 44 = some (.goto (-22), ((22, 0), ([], []))) := (kT_235 44).trans rfl
theorem r_235_47 : xT.1 235 47 = some (.return_, ((0, 0), ([], []))) := (kT_235 47).trans rfl
theorem kT_236 (pc : Nat) : xT.1 236 pc = xfind k_236 pc := rfl
theorem r_236_0 : xT.1 236 0 = some (.aload_n 0, ((0, 0), ([], []))) := (kT_236 0).trans rfl
theorem r_236_1 : xT.1 236 1 = some (.iload_n 1, ((0, 0), ([], []))) := (kT_236 1).trans rfl
theorem r_236_2 : xT.1 236 2 = some (.invokevirtual 197, ((234, 2), ([], [0]))) := (kT_236 2).trans rfl
theorem r_236_5 : xT.1 236 5 = some (.aload_n 0, ((0, 0), ([], []))) := (kT_236 5).trans rfl
theorem r_236_6 : xT.1 236 6 = some (.iload_n 2, ((0, 0), ([], []))) := (kT_236 6).trans rfl
theorem r_236_7 : xT.1 236 7 = some (.invokevirtual 200, ((235, 2), ([], [0]))) := (kT_236 7).trans rfl
theorem r_236_10 : xT.1 236 10 = some (.return_, ((0, 0), ([], []))) := (kT_236 10).trans rfl
theorem kT_237 (pc : Nat) : xT.1 237 pc = xfind k_237 pc := rfl
theorem r_237_0 : xT.1 237 0 = some (.aload_n 0, ((0, 0), ([], []))) := (kT_237 0).trans rfl
theorem r_237_1 : xT.1 237 1 = some (.iload_n 1, ((0, 0), ([], []))) := (kT_237 1).trans rfl
theorem r_237_2 : xT.1 237 2 = some (.invokevirtual 84, ((158, 2), ([], [0]))) := (kT_237 2).trans rfl
theorem r_237_5 : xT.1 237 5 = some (.istore_n 2, ((0, 0), ([], []))) := (kT_237 5).trans rfl
theorem r_237_6 : xT.1 237 6 = some (.iload_n 2, ((0, 0), ([], []))) := (kT_237 6).trans rfl
theorem r_237_7 : xT.1 237 7 = some (.iconst (-1), ((0, 0), ([.int (-1)], []))) := (kT_237 7).trans rfl
theorem r_237_8 : xT.1 237 8 = some (.if_icmp .ne 9, ((17, 0), ([], []))) := (kT_237 8).trans rfl
theorem r_237_11 : xT.1 237 11 = some (.aload_n 0, ((0, 0), ([], []))) := (kT_237 11).trans rfl
theorem r_237_12 : xT.1 237 12 = some (.iconst 1, ((0, 0), ([.int 1], []))) := (kT_237 12).trans rfl
theorem r_237_13 : xT.1 237 13 = some (.invokevirtual 60, ((153, 2), ([], [0]))) := (kT_237 13).trans rfl
theorem r_237_16 : xT.1 237 16 = some (.ireturn, ((0, 0), ([], []))) := (kT_237 16).trans rfl
theorem r_237_17 : xT.1 237 17 = some (.aload_n 0, ((0, 0), ([], []))) := (kT_237 17).trans rfl
theorem r_237_18 : xT.1 237 18 = some (.iconst 0, ((0, 0), ([.int 0], []))) := (kT_237 18).trans rfl
theorem r_237_19 : xT.1 237 19 = some (.putfield 194, ((9, 11), ([], [0]))) := (kT_237 19).trans rfl
theorem r_237_22 : xT.1 237 22 = some (.aload_n 0, ((0, 0), ([], []))) := (kT_237 22).trans rfl
theorem r_237_23 : xT.1 237 23 = some (.bipush 113, ((0, 0), ([.int 113], []))) := (kT_237 23).trans rfl
theorem r_237_25 : xT.1 237 25 = some (.iload_n 1, ((0, 0), ([], []))) := (kT_237 25).trans rfl
theorem r_237_26 : xT.1 237 26 = some (.invokevirtual 203, ((236, 3), ([], [0]))) := (kT_237 26).trans rfl
theorem r_237_29 : xT.1 237 29 = some (.aload_n 0, ((0, 0), ([], []))) := (kT_237 29).trans rfl
theorem r_237_30 : xT.1 237 30 = some (.bipush 119, ((0, 0), ([.int 119], []))) := (kT_237 30).trans rfl
theorem r_237_32 : xT.1 237 32 = some (.aload_n 0, ((0, 0), ([], []))) := (kT_237 32).trans rfl
theorem r_237_33 : xT.1 237 33 = some (.getfield 7, ((9, 0), ([], []))) := (kT_237 33).trans rfl
theorem r_237_36 : xT.1 237 36 = some (.bipush 126, ((0, 0), ([.int 126], []))) := (kT_237 36).trans rfl
theorem r_237_38 : xT.1 237 38 = some (.iload_n 2, ((0, 0), ([], []))) := (kT_237 38).trans rfl
theorem r_237_39 : xT.1 237 39 = some (.iadd, ((0, 0), ([], []))) := (kT_237 39).trans rfl
theorem r_237_40 : xT.1 237 40 = some (.iaload, ((0, 0), ([], []))) := (kT_237 40).trans rfl
theorem r_237_41 : xT.1 237 41 = some (.invokevirtual 203, ((236, 3), ([], [0]))) := (kT_237 41).trans rfl
theorem r_237_44 : xT.1 237 44 = some (.iconst 0, ((0, 0), ([.int 0], []))) := (kT_237 44).trans rfl
theorem r_237_45 : xT.1 237 45 = some (.istore_n 3, ((0, 0), ([], []))) := (kT_237 45).trans rfl
theorem r_237_46 : xT.1 237 46 = some (.iload_n 3, ((0, 0), ([], []))) := (kT_237 46).trans rfl
theorem r_237_47 : xT.1 237 47 = some (.aload_n 0, ((0, 0), ([], []))) := (kT_237 47).trans rfl
theorem r_237_48 : xT.1 237 48 = some (.getfield 7, ((9, 0), ([], []))) := (kT_237 48).trans rfl
theorem r_237_51 : xT.1 237 51 = some (.sipush 132, ((0, 0), ([.int 132], []))) := (kT_237 51).trans rfl
theorem r_237_54 : xT.1 237 54 = some (.iload_n 2, ((0, 0), ([], []))) := (kT_237 54).trans rfl
theorem r_237_55 : xT.1 237 55 = some (.iadd, ((0, 0), ([], []))) := (kT_237 55).trans rfl
theorem r_237_56 : xT.1 237 56 = some (.iaload, ((0, 0), ([], []))) := (kT_237 56).trans rfl
theorem r_237_57 : xT.1 237 57 = some (.if_icmp .ge 76, ((133, 0), ([], []))) := (kT_237 57).trans rfl
theorem r_237_60 : xT.1 237 60 = some (.iload_n 2, ((0, 0), ([], []))) := (kT_237 60).trans rfl
theorem r_237_61 : xT.1 237 61 = some (.iload_n 3, ((0, 0), ([], []))) := (kT_237 61).trans rfl
theorem r_237_62 : xT.1 237 62 = some (.invokestatic 56, ((159, 2), ([], [1]))) := (kT_237 62).trans rfl
theorem r_237_65 : xT.1 237 65 = some (.istore 4, ((0, 0), ([], []))) := (kT_237 65).trans rfl
theorem r_237_67 : xT.1 237 67 = some (.aload_n 0, ((0, 0), ([], []))) := (kT_237 67).trans rfl
theorem r_237_68 : xT.1 237 68 = some (.bipush 32, ((0, 0), ([.int 32], []))) := (kT_237 68).trans rfl
theorem r_237_70 : xT.1 237 70 = some (.aload_n 0, ((0, 0), ([], []))) := (kT_237 70).trans rfl
theorem r_237_71 : xT.1 237 71 = some (.getfield 7, ((9, 0), ([], []))) := (kT_237 71).trans rfl
theorem r_237_74 : xT.1 237 74 = some (.iload 4, ((0, 0), ([], []))) := (kT_237 74).trans rfl
theorem r_237_76 : xT.1 237 76 = some (.iconst 0, ((0, 0), ([.int 0], []))) := (kT_237 76).trans rfl
theorem r_237_77 : xT.1 237 77 = some (.iadd, ((0, 0), ([], []))) := (kT_237 77).trans rfl
theorem r_237_78 : xT.1 237 78 = some (.iaload, ((0, 0), ([], []))) := (kT_237 78).trans rfl
theorem r_237_79 : xT.1 237 79 = some (.invokevirtual 203, ((236, 3), ([], [0]))) := (kT_237 79).trans rfl
theorem r_237_82 : xT.1 237 82 = some (.aload_n 0, ((0, 0), ([], []))) := (kT_237 82).trans rfl
theorem r_237_83 : xT.1 237 83 = some (.bipush 58, ((0, 0), ([.int 58], []))) := (kT_237 83).trans rfl
theorem r_237_85 : xT.1 237 85 = some (.aload_n 0, ((0, 0), ([], []))) := (kT_237 85).trans rfl
theorem r_237_86 : xT.1 237 86 = some (.getfield 7, ((9, 0), ([], []))) := (kT_237 86).trans rfl
theorem r_237_89 : xT.1 237 89 = some (.iload 4, ((0, 0), ([], []))) := (kT_237 89).trans rfl
theorem r_237_91 : xT.1 237 91 = some (.iconst 1, ((0, 0), ([.int 1], []))) := (kT_237 91).trans rfl
theorem r_237_92 : xT.1 237 92 = some (.iadd, ((0, 0), ([], []))) := (kT_237 92).trans rfl
theorem r_237_93 : xT.1 237 93 = some (.iaload, ((0, 0), ([], []))) := (kT_237 93).trans rfl
theorem r_237_94 : xT.1 237 94 = some (.invokevirtual 203, ((236, 3), ([], [0]))) := (kT_237 94).trans rfl
theorem r_237_97 : xT.1 237 97 = some (.aload_n 0, ((0, 0), ([], []))) := (kT_237 97).trans rfl
theorem r_237_98 : xT.1 237 98 = some (.bipush 45, ((0, 0), ([.int 45], []))) := (kT_237 98).trans rfl
theorem r_237_100 : xT.1 237 100 = some (.aload_n 0, ((0, 0), ([], []))) := (kT_237 100).trans rfl
theorem r_237_101 : xT.1 237 101 = some (.getfield 7, ((9, 0), ([], []))) := (kT_237 101).trans rfl
theorem r_237_104 : xT.1 237 104 = some (.iload 4, ((0, 0), ([], []))) := (kT_237 104).trans rfl
theorem r_237_106 : xT.1 237 106 = some (.iconst 2, ((0, 0), ([.int 2], []))) := (kT_237 106).trans rfl
theorem r_237_107 : xT.1 237 107 = some (.iadd, ((0, 0), ([], []))) := (kT_237 107).trans rfl
theorem r_237_108 : xT.1 237 108 = some (.iaload, ((0, 0), ([], []))) := (kT_237 108).trans rfl
theorem r_237_109 : xT.1 237 109 = some (.invokevirtual 203, ((236, 3), ([], [0]))) := (kT_237 109).trans rfl
theorem r_237_112 : xT.1 237 112 = some (.aload_n 0, ((0, 0), ([], []))) := (kT_237 112).trans rfl
theorem r_237_113 : xT.1 237 113 = some (.bipush 99, ((0, 0), ([.int 99], []))) := (kT_237 113).trans rfl
theorem r_237_115 : xT.1 237 115 = some (.aload_n 0, ((0, 0), ([], []))) := (kT_237 115).trans rfl
theorem r_237_116 : xT.1 237 116 = some (.getfield 7, ((9, 0), ([], []))) := (kT_237 116).trans rfl
theorem r_237_119 : xT.1 237 119 = some (.iload 4, ((0, 0), ([], []))) := (kT_237 119).trans rfl
theorem r_237_121 : xT.1 237 121 = some (.iconst 3, ((0, 0), ([.int 3], []))) := (kT_237 121).trans rfl
theorem r_237_122 : xT.1 237 122 = some (.iadd, ((0, 0), ([], []))) := (kT_237 122).trans rfl
theorem r_237_123 : xT.1 237 123 = some (.iaload, ((0, 0), ([], []))) := (kT_237 123).trans rfl
theorem r_237_124 : xT.1 237 124 = some (.invokevirtual 203, ((236, 3), ([], [0]))) := (kT_237 124).trans rfl
theorem r_237_127 : xT.1 237 127 = some (.iinc 3 1, ((0, 0), ([.int (1)], []))) := (kT_237 127).trans rfl
theorem r_237_130 : xT.1 237 130 = some (.goto (-84), ((46, 0), ([], []))) := (kT_237 130).trans rfl
theorem r_237_133 : xT.1 237 133 = some (.aload_n 0, ((0, 0), ([], []))) := (kT_237 133).trans rfl
theorem r_237_134 : xT.1 237 134 = some (.aload_n 0, ((0, 0), ([], []))) := (kT_237 134).trans rfl
theorem r_237_135 : xT.1 237 135 = some (.getfield 194, ((9, 11), ([], []))) := (kT_237 135).trans rfl
theorem r_237_138 : xT.1 237 138 = some (.invokevirtual 64, ((152, 2), ([], [0]))) := (kT_237 138).trans rfl
theorem r_237_141 : xT.1 237 141 = some (.ireturn, ((0, 0), ([], []))) := (kT_237 141).trans rfl
theorem kT_238 (pc : Nat) : xT.1 238 pc = xfind k_238 pc := rfl
theorem r_238_0 : xT.1 238 0 = some (.aload_n 0, ((0, 0), ([], []))) := (kT_238 0).trans rfl
theorem r_238_1 : xT.1 238 1 = some (.iload_n 1, ((0, 0), ([], []))) := (kT_238 1).trans rfl
theorem r_238_2 : xT.1 238 2 = some (.iconst 0, ((0, 0), ([.int 0], []))) := (kT_238 2).trans rfl
theorem r_238_3 : xT.1 238 3 = some (.aload_n 0, ((0, 0), ([], []))) := (kT_238 3).trans rfl
theorem r_238_4 : xT.1 238 4 = some (.getfield 194, ((9, 11), ([], []))) := (kT_238 4).trans rfl
theorem r_238_7 : xT.1 238 7 = some (.iconst 1, ((0, 0), ([.int 1], []))) := (kT_238 7).trans rfl
theorem r_238_8 : xT.1 238 8 = some (.isub, ((0, 0), ([], []))) := (kT_238 8).trans rfl
theorem r_238_9 : xT.1 238 9 = some (.invokestatic 52, ((150, 3), ([], [1]))) := (kT_238 9).trans rfl
theorem r_238_12 : xT.1 238 12 = some (.ifCond .eq 7, ((19, 0), ([], []))) := (kT_238 12).trans rfl
theorem r_238_15 : xT.1 238 15 = some (.iconst 0, ((0, 0), ([.int 0], []))) := (kT_238 15).trans rfl
theorem r_238_16 : xT.1 238 16 = some (.goto 4, ((20, 0), ([], []))) := (kT_238 16).trans rfl
theorem r_238_19 : xT.1 238 19 = some (.iconst 1, ((0, 0), ([.int 1], []))) := (kT_238 19).trans rfl
theorem r_238_20 : xT.1 238 20 = some (.putfield 42, ((9, 12), ([], [0]))) := (kT_238 20).trans rfl
theorem r_238_23 : xT.1 238 23 = some (.aload_n 0, ((0, 0), ([], []))) := (kT_238 23).trans rfl
theorem r_238_24 : xT.1 238 24 = some (.getfield 42, ((9, 12), ([], []))) := (kT_238 24).trans rfl
theorem r_238_27 : xT.1 238 27 = some (.ifCond .ne 12, ((39, 0), ([], []))) := (kT_238 27).trans rfl
theorem r_238_30 : xT.1 238 30 = some (.aload_n 0, ((0, 0), ([], []))) := (kT_238 30).trans rfl
theorem r_238_31 : xT.1 238 31 = some (.getfield 33, ((9, 10), ([], []))) := (kT_238 31).trans rfl
theorem r_238_34 : xT.1 238 34 = some (.iload_n 1, ((0, 0), ([], []))) := (kT_238 34).trans rfl
theorem r_238_35 : xT.1 238 35 = some (.caload, ((0, 0), ([], []))) := (kT_238 35).trans rfl
theorem r_238_36 : xT.1 238 36 = some (.goto 4, ((40, 0), ([], []))) := (kT_238 36).trans rfl
theorem r_238_39 : xT.1 238 39 = some (.iconst 0, ((0, 0), ([.int 0], []))) := (kT_238 39).trans rfl
theorem r_238_40 : xT.1 238 40 = some (.ireturn, ((0, 0), ([], []))) := (kT_238 40).trans rfl
theorem kT_239 (pc : Nat) : xT.1 239 pc = xfind k_239 pc := rfl
theorem r_239_0 : xT.1 239 0 = some (.aload_n 0, ((0, 0), ([], []))) := (kT_239 0).trans rfl
theorem r_239_1 : xT.1 239 1 = some (.aload_n 0, ((0, 0), ([], []))) := (kT_239 1).trans rfl
theorem r_239_2 : xT.1 239 2 = some (.getfield 49, ((9, 3), ([], []))) := (kT_239 2).trans rfl
theorem r_239_5 : xT.1 239 5 = some (.invokevirtual 64, ((152, 2), ([], [0]))) := (kT_239 5).trans rfl
theorem r_239_8 : xT.1 239 8 = some (.ireturn, ((0, 0), ([], []))) := (kT_239 8).trans rfl
theorem kT_240 (pc : Nat) : xT.1 240 pc = xfind k_240 pc := rfl
theorem r_240_0 : xT.1 240 0 = some (.aload_n 0, ((0, 0), ([], []))) := (kT_240 0).trans rfl
theorem r_240_1 : xT.1 240 1 = some (.getfield 49, ((9, 3), ([], []))) := (kT_240 1).trans rfl
theorem r_240_4 : xT.1 240 4 = some (.ifCond .ne 9, ((13, 0), ([], []))) := (kT_240 4).trans rfl
theorem r_240_7 : xT.1 240 7 = some (.aload_n 0, ((0, 0), ([], []))) := (kT_240 7).trans rfl
theorem r_240_8 : xT.1 240 8 = some (.iconst 1, ((0, 0), ([.int 1], []))) := (kT_240 8).trans rfl
theorem r_240_9 : xT.1 240 9 = some (.invokevirtual 60, ((153, 2), ([], [0]))) := (kT_240 9).trans rfl
theorem r_240_12 : xT.1 240 12 = some (.ireturn, ((0, 0), ([], []))) := (kT_240 12).trans rfl
theorem r_240_13 : xT.1 240 13 = some (.aload_n 0, ((0, 0), ([], []))) := (kT_240 13).trans rfl
theorem r_240_14 : xT.1 240 14 = some (.dup, ((0, 0), ([], []))) := (kT_240 14).trans rfl
theorem r_240_15 : xT.1 240 15 = some (.getfield 49, ((9, 3), ([], []))) := (kT_240 15).trans rfl
theorem r_240_18 : xT.1 240 18 = some (.iconst 1, ((0, 0), ([.int 1], []))) := (kT_240 18).trans rfl
theorem r_240_19 : xT.1 240 19 = some (.isub, ((0, 0), ([], []))) := (kT_240 19).trans rfl
theorem r_240_20 : xT.1 240 20 = some (.putfield 49, ((9, 3), ([], [0]))) := (kT_240 20).trans rfl
theorem r_240_23 : xT.1 240 23 = some (.aload_n 0, ((0, 0), ([], []))) := (kT_240 23).trans rfl
theorem r_240_24 : xT.1 240 24 = some (.getfield 16, ((9, 2), ([], []))) := (kT_240 24).trans rfl
theorem r_240_27 : xT.1 240 27 = some (.aload_n 0, ((0, 0), ([], []))) := (kT_240 27).trans rfl
theorem r_240_28 : xT.1 240 28 = some (.getfield 49, ((9, 3), ([], []))) := (kT_240 28).trans rfl
theorem r_240_31 : xT.1 240 31 = some (.sipush 288, ((0, 0), ([.int 288], []))) := (kT_240 31).trans rfl
theorem r_240_34 : xT.1 240 34 = some (.imul, ((0, 0), ([], []))) := (kT_240 34).trans rfl
theorem r_240_35 : xT.1 240 35 = some (.aload_n 0, ((0, 0), ([], []))) := (kT_240 35).trans rfl
theorem r_240_36 : xT.1 240 36 = some (.getfield 7, ((9, 0), ([], []))) := (kT_240 36).trans rfl
theorem r_240_39 : xT.1 240 39 = some (.iconst 0, ((0, 0), ([.int 0], []))) := (kT_240 39).trans rfl
theorem r_240_40 : xT.1 240 40 = some (.invokestatic 45, ((154, 4), ([], [1]))) := (kT_240 40).trans rfl
theorem r_240_43 : xT.1 240 43 = some (.aload_n 0, ((0, 0), ([], []))) := (kT_240 43).trans rfl
theorem r_240_44 : xT.1 240 44 = some (.aload_n 0, ((0, 0), ([], []))) := (kT_240 44).trans rfl
theorem r_240_45 : xT.1 240 45 = some (.getfield 49, ((9, 3), ([], []))) := (kT_240 45).trans rfl
theorem r_240_48 : xT.1 240 48 = some (.invokevirtual 64, ((152, 2), ([], [0]))) := (kT_240 48).trans rfl
theorem r_240_51 : xT.1 240 51 = some (.ireturn, ((0, 0), ([], []))) := (kT_240 51).trans rfl
theorem kT_241 (pc : Nat) : xT.1 241 pc = xfind k_241 pc := rfl
theorem r_241_0 : xT.1 241 0 = some (.aload_n 0, ((0, 0), ([], []))) := (kT_241 0).trans rfl
theorem r_241_1 : xT.1 241 1 = some (.getfield 7, ((9, 0), ([], []))) := (kT_241 1).trans rfl
theorem r_241_4 : xT.1 241 4 = some (.iconst 0, ((0, 0), ([.int 0], []))) := (kT_241 4).trans rfl
theorem r_241_5 : xT.1 241 5 = some (.aload_n 0, ((0, 0), ([], []))) := (kT_241 5).trans rfl
theorem r_241_6 : xT.1 241 6 = some (.getfield 19, ((9, 4), ([], []))) := (kT_241 6).trans rfl
theorem r_241_9 : xT.1 241 9 = some (.iconst 0, ((0, 0), ([.int 0], []))) := (kT_241 9).trans rfl
theorem r_241_10 : xT.1 241 10 = some (.invokestatic 45, ((154, 4), ([], [1]))) := (kT_241 10).trans rfl
theorem r_241_13 : xT.1 241 13 = some (.aload_n 0, ((0, 0), ([], []))) := (kT_241 13).trans rfl
theorem r_241_14 : xT.1 241 14 = some (.iconst 1, ((0, 0), ([.int 1], []))) := (kT_241 14).trans rfl
theorem r_241_15 : xT.1 241 15 = some (.putfield 206, ((9, 5), ([], [1]))) := (kT_241 15).trans rfl
theorem r_241_18 : xT.1 241 18 = some (.aload_n 0, ((0, 0), ([], []))) := (kT_241 18).trans rfl
theorem r_241_19 : xT.1 241 19 = some (.aload_n 0, ((0, 0), ([], []))) := (kT_241 19).trans rfl
theorem r_241_20 : xT.1 241 20 = some (.getfield 7, ((9, 0), ([], []))) := (kT_241 20).trans rfl
theorem r_241_23 : xT.1 241 23 = some (.iconst 1, ((0, 0), ([.int 1], []))) := (kT_241 23).trans rfl
theorem r_241_24 : xT.1 241 24 = some (.iaload, ((0, 0), ([], []))) := (kT_241 24).trans rfl
theorem r_241_25 : xT.1 241 25 = some (.invokevirtual 64, ((152, 2), ([], [0]))) := (kT_241 25).trans rfl
theorem r_241_28 : xT.1 241 28 = some (.ireturn, ((0, 0), ([], []))) := (kT_241 28).trans rfl
theorem kT_242 (pc : Nat) : xT.1 242 pc = xfind k_242 pc := rfl
theorem r_242_0 : xT.1 242 0 = some (.aload_n 0, ((0, 0), ([], []))) := (kT_242 0).trans rfl
theorem r_242_1 : xT.1 242 1 = some (.getfield 206, ((9, 5), ([], []))) := (kT_242 1).trans rfl
theorem r_242_4 : xT.1 242 4 = some (.ifCond .ne 9, ((13, 0), ([], []))) := (kT_242 4).trans rfl
theorem r_242_7 : xT.1 242 7 = some (.aload_n 0, ((0, 0), ([], []))) := (kT_242 7).trans rfl
theorem r_242_8 : xT.1 242 8 = some (.iconst 1, ((0, 0), ([.int 1], []))) := (kT_242 8).trans rfl
theorem r_242_9 : xT.1 242 9 = some (.invokevirtual 60, ((153, 2), ([], [0]))) := (kT_242 9).trans rfl
theorem r_242_12 : xT.1 242 12 = some (.ireturn, ((0, 0), ([], []))) := (kT_242 12).trans rfl
theorem r_242_13 : xT.1 242 13 = some (.aload_n 0, ((0, 0), ([], []))) := (kT_242 13).trans rfl
theorem r_242_14 : xT.1 242 14 = some (.getfield 19, ((9, 4), ([], []))) := (kT_242 14).trans rfl
theorem r_242_17 : xT.1 242 17 = some (.iconst 0, ((0, 0), ([.int 0], []))) := (kT_242 17).trans rfl
theorem r_242_18 : xT.1 242 18 = some (.aload_n 0, ((0, 0), ([], []))) := (kT_242 18).trans rfl
theorem r_242_19 : xT.1 242 19 = some (.getfield 7, ((9, 0), ([], []))) := (kT_242 19).trans rfl
theorem r_242_22 : xT.1 242 22 = some (.iconst 0, ((0, 0), ([.int 0], []))) := (kT_242 22).trans rfl
theorem r_242_23 : xT.1 242 23 = some (.invokestatic 45, ((154, 4), ([], [1]))) := (kT_242 23).trans rfl
theorem r_242_26 : xT.1 242 26 = some (.aload_n 0, ((0, 0), ([], []))) := (kT_242 26).trans rfl
theorem r_242_27 : xT.1 242 27 = some (.iconst 0, ((0, 0), ([.int 0], []))) := (kT_242 27).trans rfl
theorem r_242_28 : xT.1 242 28 = some (.putfield 49, ((9, 3), ([], [0]))) := (kT_242 28).trans rfl
theorem r_242_31 : xT.1 242 31 = some (.aload_n 0, ((0, 0), ([], []))) := (kT_242 31).trans rfl
theorem r_242_32 : xT.1 242 32 = some (.aload_n 0, ((0, 0), ([], []))) := (kT_242 32).trans rfl
theorem r_242_33 : xT.1 242 33 = some (.getfield 7, ((9, 0), ([], []))) := (kT_242 33).trans rfl
theorem r_242_36 : xT.1 242 36 = some (.iconst 1, ((0, 0), ([.int 1], []))) := (kT_242 36).trans rfl
theorem r_242_37 : xT.1 242 37 = some (.iaload, ((0, 0), ([], []))) := (kT_242 37).trans rfl
theorem r_242_38 : xT.1 242 38 = some (.invokevirtual 64, ((152, 2), ([], [0]))) := (kT_242 38).trans rfl
theorem r_242_41 : xT.1 242 41 = some (.ireturn, ((0, 0), ([], []))) := (kT_242 41).trans rfl
theorem kT_243 (pc : Nat) : xT.1 243 pc = xfind k_243 pc := rfl
theorem r_243_0 : xT.1 243 0 = some (.aload_n 1, ((0, 0), ([], []))) := (kT_243 0).trans rfl
theorem r_243_1 : xT.1 243 1 = some (.iconst 0, ((0, 0), ([.int 0], []))) := (kT_243 1).trans rfl
theorem r_243_2 : xT.1 243 2 = some (.aload_n 0, ((0, 0), ([], []))) := (kT_243 2).trans rfl
theorem r_243_3 : xT.1 243 3 = some (.invokevirtual 7, ((84, 1), ([], [0]))) := (kT_243 3).trans rfl
theorem r_243_6 : xT.1 243 6 = some (.i2l, ((0, 0), ([], []))) := (kT_243 6).trans rfl
theorem r_243_7 : xT.1 243 7 = some (.lastore, ((0, 0), ([], []))) := (kT_243 7).trans rfl
theorem r_243_8 : xT.1 243 8 = some (.goto 6, ((14, 0), ([], []))) := (kT_243 8).trans rfl
theorem r_243_11 : xT.1 243 11 = some (.astore_n 2, ((0, 0), ([], []))) := (kT_243 11).trans rfl
theorem r_243_12 : xT.1 243 12 = some (.iconst 1, ((0, 0), ([.int 1], []))) := (kT_243 12).trans rfl
theorem r_243_13 : xT.1 243 13 = some (.ireturn, ((0, 0), ([], []))) := (kT_243 13).trans rfl
theorem r_243_14 : xT.1 243 14 = some (.iconst 0, ((0, 0), ([.int 0], []))) := (kT_243 14).trans rfl
theorem r_243_15 : xT.1 243 15 = some (.ireturn, ((0, 0), ([], []))) := (kT_243 15).trans rfl
theorem kT_244 (pc : Nat) : xT.1 244 pc = xfind k_244 pc := rfl
theorem r_244_0 : xT.1 244 0 = some (.aload_n 2, ((0, 0), ([], []))) := (kT_244 0).trans rfl
theorem r_244_1 : xT.1 244 1 = some (.iconst 0, ((0, 0), ([.int 0], []))) := (kT_244 1).trans rfl
theorem r_244_2 : xT.1 244 2 = some (.aload_n 0, ((0, 0), ([], []))) := (kT_244 2).trans rfl
theorem r_244_3 : xT.1 244 3 = some (.iload_n 1, ((0, 0), ([], []))) := (kT_244 3).trans rfl
theorem r_244_4 : xT.1 244 4 = some (.invokevirtual 15, ((85, 2), ([], [0]))) := (kT_244 4).trans rfl
theorem r_244_7 : xT.1 244 7 = some (.i2l, ((0, 0), ([], []))) := (kT_244 7).trans rfl
theorem r_244_8 : xT.1 244 8 = some (.lastore, ((0, 0), ([], []))) := (kT_244 8).trans rfl
theorem r_244_9 : xT.1 244 9 = some (.goto 9, ((18, 0), ([], []))) := (kT_244 9).trans rfl
theorem r_244_12 : xT.1 244 12 = some (.astore_n 3, ((0, 0), ([], []))) := (kT_244 12).trans rfl
theorem r_244_13 : xT.1 244 13 = some (.iconst 1, ((0, 0), ([.int 1], []))) := (kT_244 13).trans rfl
theorem r_244_14 : xT.1 244 14 = some (.ireturn, ((0, 0), ([], []))) := (kT_244 14).trans rfl
theorem r_244_15 : xT.1 244 15 = some (.astore_n 3, ((0, 0), ([], []))) := (kT_244 15).trans rfl
theorem r_244_16 : xT.1 244 16 = some (.iconst 2, ((0, 0), ([.int 2], []))) := (kT_244 16).trans rfl
theorem r_244_17 : xT.1 244 17 = some (.ireturn, ((0, 0), ([], []))) := (kT_244 17).trans rfl
theorem r_244_18 : xT.1 244 18 = some (.iconst 0, ((0, 0), ([.int 0], []))) := (kT_244 18).trans rfl
theorem r_244_19 : xT.1 244 19 = some (.ireturn, ((0, 0), ([], []))) := (kT_244 19).trans rfl
theorem kT_245 (pc : Nat) : xT.1 245 pc = xfind k_245 pc := rfl
theorem r_245_0 : xT.1 245 0 = some (.aload 7, ((0, 0), ([], []))) := (kT_245 0).trans rfl
theorem r_245_2 : xT.1 245 2 = some (.iconst 0, ((0, 0), ([.int 0], []))) := (kT_245 2).trans rfl
theorem r_245_3 : xT.1 245 3 = some (.aload_n 0, ((0, 0), ([], []))) := (kT_245 3).trans rfl
theorem r_245_4 : xT.1 245 4 = some (.iload_n 1, ((0, 0), ([], []))) := (kT_245 4).trans rfl
theorem r_245_5 : xT.1 245 5 = some (.iload_n 2, ((0, 0), ([], []))) := (kT_245 5).trans rfl
theorem r_245_6 : xT.1 245 6 = some (.iload_n 3, ((0, 0), ([], []))) := (kT_245 6).trans rfl
theorem r_245_7 : xT.1 245 7 = some (.iload 4, ((0, 0), ([], []))) := (kT_245 7).trans rfl
theorem r_245_9 : xT.1 245 9 = some (.iload 5, ((0, 0), ([], []))) := (kT_245 9).trans rfl
theorem r_245_11 : xT.1 245 11 = some (.iload 6, ((0, 0), ([], []))) := (kT_245 11).trans rfl
theorem r_245_13 : xT.1 245 13 = some (.invokevirtual 21, ((86, 7), ([], [0]))) := (kT_245 13).trans rfl
theorem r_245_16 : xT.1 245 16 = some (.i2l, ((0, 0), ([], []))) := (kT_245 16).trans rfl
theorem r_245_17 : xT.1 245 17 = some (.lastore, ((0, 0), ([], []))) := (kT_245 17).trans rfl
theorem r_245_18 : xT.1 245 18 = some (.goto 23, ((41, 0), ([], []))) := (kT_245 18).trans rfl
theorem r_245_21 : xT.1 245 21 = some (.astore 8, ((0, 0), ([], []))) := (kT_245 21).trans rfl
theorem r_245_23 : xT.1 245 23 = some (.iconst 1, ((0, 0), ([.int 1], []))) := (kT_245 23).trans rfl
theorem r_245_24 : xT.1 245 24 = some (.ireturn, ((0, 0), ([], []))) := (kT_245 24).trans rfl
theorem r_245_25 : xT.1 245 25 = some (.astore 8, ((0, 0), ([], []))) := (kT_245 25).trans rfl
theorem r_245_27 : xT.1 245 27 = some (.iconst 2, ((0, 0), ([.int 2], []))) := (kT_245 27).trans rfl
theorem r_245_28 : xT.1 245 28 = some (.ireturn, ((0, 0), ([], []))) := (kT_245 28).trans rfl
theorem r_245_29 : xT.1 245 29 = some (.astore 8, ((0, 0), ([], []))) := (kT_245 29).trans rfl
theorem r_245_31 : xT.1 245 31 = some (.iconst 3, ((0, 0), ([.int 3], []))) := (kT_245 31).trans rfl
theorem r_245_32 : xT.1 245 32 = some (.ireturn, ((0, 0), ([], []))) := (kT_245 32).trans rfl
theorem r_245_33 : xT.1 245 33 = some (.astore 8, ((0, 0), ([], []))) := (kT_245 33).trans rfl
theorem r_245_35 : xT.1 245 35 = some (.iconst 4, ((0, 0), ([.int 4], []))) := (kT_245 35).trans rfl
theorem r_245_36 : xT.1 245 36 = some (.ireturn, ((0, 0), ([], []))) := (kT_245 36).trans rfl
theorem r_245_37 : xT.1 245 37 = some (.astore 8, ((0, 0), ([], []))) := (kT_245 37).trans rfl
theorem r_245_39 : xT.1 245 39 = some (.iconst 5, ((0, 0), ([.int 5], []))) := (kT_245 39).trans rfl
theorem r_245_40 : xT.1 245 40 = some (.ireturn, ((0, 0), ([], []))) := (kT_245 40).trans rfl
theorem r_245_41 : xT.1 245 41 = some (.iconst 0, ((0, 0), ([.int 0], []))) := (kT_245 41).trans rfl
theorem r_245_42 : xT.1 245 42 = some (.ireturn, ((0, 0), ([], []))) := (kT_245 42).trans rfl
theorem kT_246 (pc : Nat) : xT.1 246 pc = xfind k_246 pc := rfl
theorem r_246_0 : xT.1 246 0 = some (.aload_n 2, ((0, 0), ([], []))) := (kT_246 0).trans rfl
theorem r_246_1 : xT.1 246 1 = some (.iconst 0, ((0, 0), ([.int 0], []))) := (kT_246 1).trans rfl
theorem r_246_2 : xT.1 246 2 = some (.aload_n 0, ((0, 0), ([], []))) := (kT_246 2).trans rfl
theorem r_246_3 : xT.1 246 3 = some (.iload_n 1, ((0, 0), ([], []))) := (kT_246 3).trans rfl
theorem r_246_4 : xT.1 246 4 = some (.invokevirtual 31, ((87, 2), ([], [0]))) := (kT_246 4).trans rfl
theorem r_246_7 : xT.1 246 7 = some (.i2l, ((0, 0), ([], []))) := (kT_246 7).trans rfl
theorem r_246_8 : xT.1 246 8 = some (.lastore, ((0, 0), ([], []))) := (kT_246 8).trans rfl
theorem r_246_9 : xT.1 246 9 = some (.goto 9, ((18, 0), ([], []))) := (kT_246 9).trans rfl
theorem r_246_12 : xT.1 246 12 = some (.astore_n 3, ((0, 0), ([], []))) := (kT_246 12).trans rfl
theorem r_246_13 : xT.1 246 13 = some (.iconst 1, ((0, 0), ([.int 1], []))) := (kT_246 13).trans rfl
theorem r_246_14 : xT.1 246 14 = some (.ireturn, ((0, 0), ([], []))) := (kT_246 14).trans rfl
theorem r_246_15 : xT.1 246 15 = some (.astore_n 3, ((0, 0), ([], []))) := (kT_246 15).trans rfl
theorem r_246_16 : xT.1 246 16 = some (.iconst 2, ((0, 0), ([.int 2], []))) := (kT_246 16).trans rfl
theorem r_246_17 : xT.1 246 17 = some (.ireturn, ((0, 0), ([], []))) := (kT_246 17).trans rfl
theorem r_246_18 : xT.1 246 18 = some (.iconst 0, ((0, 0), ([.int 0], []))) := (kT_246 18).trans rfl
theorem r_246_19 : xT.1 246 19 = some (.ireturn, ((0, 0), ([], []))) := (kT_246 19).trans rfl
theorem kT_247 (pc : Nat) : xT.1 247 pc = xfind k_247 pc := rfl
theorem r_247_0 : xT.1 247 0 = some (.aload_n 1, ((0, 0), ([], []))) := (kT_247 0).trans rfl
theorem r_247_1 : xT.1 247 1 = some (.iconst 0, ((0, 0), ([.int 0], []))) := (kT_247 1).trans rfl
theorem r_247_2 : xT.1 247 2 = some (.aload_n 0, ((0, 0), ([], []))) := (kT_247 2).trans rfl
theorem r_247_3 : xT.1 247 3 = some (.invokevirtual 34, ((88, 1), ([], [0]))) := (kT_247 3).trans rfl
theorem r_247_6 : xT.1 247 6 = some (.i2l, ((0, 0), ([], []))) := (kT_247 6).trans rfl
theorem r_247_7 : xT.1 247 7 = some (.lastore, ((0, 0), ([], []))) := (kT_247 7).trans rfl
theorem r_247_8 : xT.1 247 8 = some (.goto 6, ((14, 0), ([], []))) := (kT_247 8).trans rfl
theorem r_247_11 : xT.1 247 11 = some (.astore_n 2, ((0, 0), ([], []))) := (kT_247 11).trans rfl
theorem r_247_12 : xT.1 247 12 = some (.iconst 1, ((0, 0), ([.int 1], []))) := (kT_247 12).trans rfl
theorem r_247_13 : xT.1 247 13 = some (.ireturn, ((0, 0), ([], []))) := (kT_247 13).trans rfl
theorem r_247_14 : xT.1 247 14 = some (.iconst 0, ((0, 0), ([.int 0], []))) := (kT_247 14).trans rfl
theorem r_247_15 : xT.1 247 15 = some (.ireturn, ((0, 0), ([], []))) := (kT_247 15).trans rfl
theorem kT_248 (pc : Nat) : xT.1 248 pc = xfind k_248 pc := rfl
theorem r_248_0 : xT.1 248 0 = some (.aload_n 2, ((0, 0), ([], []))) := (kT_248 0).trans rfl
theorem r_248_1 : xT.1 248 1 = some (.iconst 0, ((0, 0), ([.int 0], []))) := (kT_248 1).trans rfl
theorem r_248_2 : xT.1 248 2 = some (.aload_n 0, ((0, 0), ([], []))) := (kT_248 2).trans rfl
theorem r_248_3 : xT.1 248 3 = some (.iload_n 1, ((0, 0), ([], []))) := (kT_248 3).trans rfl
theorem r_248_4 : xT.1 248 4 = some (.invokevirtual 37, ((89, 2), ([], [0]))) := (kT_248 4).trans rfl
theorem r_248_7 : xT.1 248 7 = some (.i2l, ((0, 0), ([], []))) := (kT_248 7).trans rfl
theorem r_248_8 : xT.1 248 8 = some (.lastore, ((0, 0), ([], []))) := (kT_248 8).trans rfl
theorem r_248_9 : xT.1 248 9 = some (.goto 9, ((18, 0), ([], []))) := (kT_248 9).trans rfl
theorem r_248_12 : xT.1 248 12 = some (.astore_n 3, ((0, 0), ([], []))) := (kT_248 12).trans rfl
theorem r_248_13 : xT.1 248 13 = some (.iconst 1, ((0, 0), ([.int 1], []))) := (kT_248 13).trans rfl
theorem r_248_14 : xT.1 248 14 = some (.ireturn, ((0, 0), ([], []))) := (kT_248 14).trans rfl
theorem r_248_15 : xT.1 248 15 = some (.astore_n 3, ((0, 0), ([], []))) := (kT_248 15).trans rfl
theorem r_248_16 : xT.1 248 16 = some (.iconst 2, ((0, 0), ([.int 2], []))) := (kT_248 16).trans rfl
theorem r_248_17 : xT.1 248 17 = some (.ireturn, ((0, 0), ([], []))) := (kT_248 17).trans rfl
theorem r_248_18 : xT.1 248 18 = some (.iconst 0, ((0, 0), ([.int 0], []))) := (kT_248 18).trans rfl
theorem r_248_19 : xT.1 248 19 = some (.ireturn, ((0, 0), ([], []))) := (kT_248 19).trans rfl
theorem kT_249 (pc : Nat) : xT.1 249 pc = xfind k_249 pc := rfl
theorem r_249_0 : xT.1 249 0 = some (.aload_n 2, ((0, 0), ([], []))) := (kT_249 0).trans rfl
theorem r_249_1 : xT.1 249 1 = some (.iconst 0, ((0, 0), ([.int 0], []))) := (kT_249 1).trans rfl
theorem r_249_2 : xT.1 249 2 = some (.aload_n 0, ((0, 0), ([], []))) := (kT_249 2).trans rfl
theorem r_249_3 : xT.1 249 3 = some (.iload_n 1, ((0, 0), ([], []))) := (kT_249 3).trans rfl
theorem r_249_4 : xT.1 249 4 = some (.invokevirtual 40, ((91, 2), ([], [0]))) := (kT_249 4).trans rfl
theorem r_249_7 : xT.1 249 7 = some (.i2l, ((0, 0), ([], []))) := (kT_249 7).trans rfl
theorem r_249_8 : xT.1 249 8 = some (.lastore, ((0, 0), ([], []))) := (kT_249 8).trans rfl
theorem r_249_9 : xT.1 249 9 = some (.goto 6, ((15, 0), ([], []))) := (kT_249 9).trans rfl
theorem r_249_12 : xT.1 249 12 = some (.astore_n 3, ((0, 0), ([], []))) := (kT_249 12).trans rfl
theorem r_249_13 : xT.1 249 13 = some (.iconst 1, ((0, 0), ([.int 1], []))) := (kT_249 13).trans rfl
theorem r_249_14 : xT.1 249 14 = some (.ireturn, ((0, 0), ([], []))) := (kT_249 14).trans rfl
theorem r_249_15 : xT.1 249 15 = some (.iconst 0, ((0, 0), ([.int 0], []))) := (kT_249 15).trans rfl
theorem r_249_16 : xT.1 249 16 = some (.ireturn, ((0, 0), ([], []))) := (kT_249 16).trans rfl
theorem kT_250 (pc : Nat) : xT.1 250 pc = xfind k_250 pc := rfl
theorem r_250_0 : xT.1 250 0 = some (.aload_n 2, ((0, 0), ([], []))) := (kT_250 0).trans rfl
theorem r_250_1 : xT.1 250 1 = some (.iconst 0, ((0, 0), ([.int 0], []))) := (kT_250 1).trans rfl
theorem r_250_2 : xT.1 250 2 = some (.aload_n 0, ((0, 0), ([], []))) := (kT_250 2).trans rfl
theorem r_250_3 : xT.1 250 3 = some (.iload_n 1, ((0, 0), ([], []))) := (kT_250 3).trans rfl
theorem r_250_4 : xT.1 250 4 = some (.invokevirtual 43, ((92, 2), ([], [0]))) := (kT_250 4).trans rfl
theorem r_250_7 : xT.1 250 7 = some (.ifCond .eq 7, ((14, 0), ([], []))) := (kT_250 7).trans rfl
theorem r_250_10 : xT.1 250 10 = some (.lconst 1, ((0, 0), ([.long 1], []))) := (kT_250 10).trans rfl
theorem r_250_11 : xT.1 250 11 = some (.goto 4, ((15, 0), ([], []))) := (kT_250 11).trans rfl
theorem r_250_14 : xT.1 250 14 = some (.lconst 0, ((0, 0), ([.long 0], []))) := (kT_250 14).trans rfl
theorem r_250_15 : xT.1 250 15 = some (.lastore, ((0, 0), ([], []))) := (kT_250 15).trans rfl
theorem r_250_16 : xT.1 250 16 = some (.goto 6, ((22, 0), ([], []))) := (kT_250 16).trans rfl
theorem r_250_19 : xT.1 250 19 = some (.astore_n 3, ((0, 0), ([], []))) := (kT_250 19).trans rfl
theorem r_250_20 : xT.1 250 20 = some (.iconst 1, ((0, 0), ([.int 1], []))) := (kT_250 20).trans rfl
theorem r_250_21 : xT.1 250 21 = some (.ireturn, ((0, 0), ([], []))) := (kT_250 21).trans rfl
theorem r_250_22 : xT.1 250 22 = some (.iconst 0, ((0, 0), ([.int 0], []))) := (kT_250 22).trans rfl
theorem r_250_23 : xT.1 250 23 = some (.ireturn, ((0, 0), ([], []))) := (kT_250 23).trans rfl
theorem kT_251 (pc : Nat) : xT.1 251 pc = xfind k_251 pc := rfl
theorem r_251_0 : xT.1 251 0 = some (.aload_n 2, ((0, 0), ([], []))) := (kT_251 0).trans rfl
theorem r_251_1 : xT.1 251 1 = some (.iconst 0, ((0, 0), ([.int 0], []))) := (kT_251 1).trans rfl
theorem r_251_2 : xT.1 251 2 = some (.aload_n 0, ((0, 0), ([], []))) := (kT_251 2).trans rfl
theorem r_251_3 : xT.1 251 3 = some (.iload_n 1, ((0, 0), ([], []))) := (kT_251 3).trans rfl
theorem r_251_4 : xT.1 251 4 = some (.invokevirtual 47, ((96, 2), ([], [0]))) := (kT_251 4).trans rfl
theorem r_251_7 : xT.1 251 7 = some (.i2l, ((0, 0), ([], []))) := (kT_251 7).trans rfl
theorem r_251_8 : xT.1 251 8 = some (.lastore, ((0, 0), ([], []))) := (kT_251 8).trans rfl
theorem r_251_9 : xT.1 251 9 = some (.goto 6, ((15, 0), ([], []))) := (kT_251 9).trans rfl
theorem r_251_12 : xT.1 251 12 = some (.astore_n 3, ((0, 0), ([], []))) := (kT_251 12).trans rfl
theorem r_251_13 : xT.1 251 13 = some (.iconst 1, ((0, 0), ([.int 1], []))) := (kT_251 13).trans rfl
theorem r_251_14 : xT.1 251 14 = some (.ireturn, ((0, 0), ([], []))) := (kT_251 14).trans rfl
theorem r_251_15 : xT.1 251 15 = some (.iconst 0, ((0, 0), ([.int 0], []))) := (kT_251 15).trans rfl
theorem r_251_16 : xT.1 251 16 = some (.ireturn, ((0, 0), ([], []))) := (kT_251 16).trans rfl
theorem kT_252 (pc : Nat) : xT.1 252 pc = xfind k_252 pc := rfl
theorem r_252_0 : xT.1 252 0 = some (.aload_n 2, ((0, 0), ([], []))) := (kT_252 0).trans rfl
theorem r_252_1 : xT.1 252 1 = some (.iconst 0, ((0, 0), ([.int 0], []))) := (kT_252 1).trans rfl
theorem r_252_2 : xT.1 252 2 = some (.aload_n 0, ((0, 0), ([], []))) := (kT_252 2).trans rfl
theorem r_252_3 : xT.1 252 3 = some (.iload_n 1, ((0, 0), ([], []))) := (kT_252 3).trans rfl
theorem r_252_4 : xT.1 252 4 = some (.invokevirtual 50, ((97, 2), ([], [0]))) := (kT_252 4).trans rfl
theorem r_252_7 : xT.1 252 7 = some (.i2l, ((0, 0), ([], []))) := (kT_252 7).trans rfl
theorem r_252_8 : xT.1 252 8 = some (.lastore, ((0, 0), ([], []))) := (kT_252 8).trans rfl
theorem r_252_9 : xT.1 252 9 = some (.goto 6, ((15, 0), ([], []))) := (kT_252 9).trans rfl
theorem r_252_12 : xT.1 252 12 = some (.astore_n 3, ((0, 0), ([], []))) := (kT_252 12).trans rfl
theorem r_252_13 : xT.1 252 13 = some (.iconst 1, ((0, 0), ([.int 1], []))) := (kT_252 13).trans rfl
theorem r_252_14 : xT.1 252 14 = some (.ireturn, ((0, 0), ([], []))) := (kT_252 14).trans rfl
theorem r_252_15 : xT.1 252 15 = some (.iconst 0, ((0, 0), ([.int 0], []))) := (kT_252 15).trans rfl
theorem r_252_16 : xT.1 252 16 = some (.ireturn, ((0, 0), ([], []))) := (kT_252 16).trans rfl
theorem kT_253 (pc : Nat) : xT.1 253 pc = xfind k_253 pc := rfl
theorem r_253_0 : xT.1 253 0 = some (.aload_n 2, ((0, 0), ([], []))) := (kT_253 0).trans rfl
theorem r_253_1 : xT.1 253 1 = some (.iconst 0, ((0, 0), ([.int 0], []))) := (kT_253 1).trans rfl
theorem r_253_2 : xT.1 253 2 = some (.aload_n 0, ((0, 0), ([], []))) := (kT_253 2).trans rfl
theorem r_253_3 : xT.1 253 3 = some (.iload_n 1, ((0, 0), ([], []))) := (kT_253 3).trans rfl
theorem r_253_4 : xT.1 253 4 = some (.invokevirtual 53, ((98, 2), ([], [0]))) := (kT_253 4).trans rfl
theorem r_253_7 : xT.1 253 7 = some (.i2l, ((0, 0), ([], []))) := (kT_253 7).trans rfl
theorem r_253_8 : xT.1 253 8 = some (.lastore, ((0, 0), ([], []))) := (kT_253 8).trans rfl
theorem r_253_9 : xT.1 253 9 = some (.goto 6, ((15, 0), ([], []))) := (kT_253 9).trans rfl
theorem r_253_12 : xT.1 253 12 = some (.astore_n 3, ((0, 0), ([], []))) := (kT_253 12).trans rfl
theorem r_253_13 : xT.1 253 13 = some (.iconst 1, ((0, 0), ([.int 1], []))) := (kT_253 13).trans rfl
theorem r_253_14 : xT.1 253 14 = some (.ireturn, ((0, 0), ([], []))) := (kT_253 14).trans rfl
theorem r_253_15 : xT.1 253 15 = some (.iconst 0, ((0, 0), ([.int 0], []))) := (kT_253 15).trans rfl
theorem r_253_16 : xT.1 253 16 = some (.ireturn, ((0, 0), ([], []))) := (kT_253 16).trans rfl
theorem kT_254 (pc : Nat) : xT.1 254 pc = xfind k_254 pc := rfl
theorem r_254_0 : xT.1 254 0 = some (.aload_n 2, ((0, 0), ([], []))) := (kT_254 0).trans rfl
theorem r_254_1 : xT.1 254 1 = some (.iconst 0, ((0, 0), ([.int 0], []))) := (kT_254 1).trans rfl
theorem r_254_2 : xT.1 254 2 = some (.aload_n 0, ((0, 0), ([], []))) := (kT_254 2).trans rfl
theorem r_254_3 : xT.1 254 3 = some (.iload_n 1, ((0, 0), ([], []))) := (kT_254 3).trans rfl
theorem r_254_4 : xT.1 254 4 = some (.invokevirtual 56, ((99, 2), ([], [0]))) := (kT_254 4).trans rfl
theorem r_254_7 : xT.1 254 7 = some (.i2l, ((0, 0), ([], []))) := (kT_254 7).trans rfl
theorem r_254_8 : xT.1 254 8 = some (.lastore, ((0, 0), ([], []))) := (kT_254 8).trans rfl
theorem r_254_9 : xT.1 254 9 = some (.goto 6, ((15, 0), ([], []))) := (kT_254 9).trans rfl
theorem r_254_12 : xT.1 254 12 = some (.astore_n 3, ((0, 0), ([], []))) := (kT_254 12).trans rfl
theorem r_254_13 : xT.1 254 13 = some (.iconst 1, ((0, 0), ([.int 1], []))) := (kT_254 13).trans rfl
theorem r_254_14 : xT.1 254 14 = some (.ireturn, ((0, 0), ([], []))) := (kT_254 14).trans rfl
theorem r_254_15 : xT.1 254 15 = some (.iconst 0, ((0, 0), ([.int 0], []))) := (kT_254 15).trans rfl
theorem r_254_16 : xT.1 254 16 = some (.ireturn, ((0, 0), ([], []))) := (kT_254 16).trans rfl
theorem kT_255 (pc : Nat) : xT.1 255 pc = xfind k_255 pc := rfl
theorem r_255_0 : xT.1 255 0 = some (.aload_n 3, ((0, 0), ([], []))) := (kT_255 0).trans rfl
theorem r_255_1 : xT.1 255 1 = some (.iconst 0, ((0, 0), ([.int 0], []))) := (kT_255 1).trans rfl
theorem r_255_2 : xT.1 255 2 = some (.aload_n 0, ((0, 0), ([], []))) := (kT_255 2).trans rfl
theorem r_255_3 : xT.1 255 3 = some (.iload_n 1, ((0, 0), ([], []))) := (kT_255 3).trans rfl
theorem r_255_4 : xT.1 255 4 = some (.iload_n 2, ((0, 0), ([], []))) := (kT_255 4).trans rfl
theorem r_255_5 : xT.1 255 5 = some (.invokevirtual 59, ((100, 3), ([], [0]))) := (kT_255 5).trans rfl
theorem r_255_8 : xT.1 255 8 = some (.i2l, ((0, 0), ([], []))) := (kT_255 8).trans rfl
theorem r_255_9 : xT.1 255 9 = some (.lastore, ((0, 0), ([], []))) := (kT_255 9).trans rfl
theorem r_255_10 : xT.1 255 10 = some (.goto 11, ((21, 0), ([], []))) := (kT_255 10).trans rfl
theorem r_255_13 : xT.1 255 13 = some (.astore 4, ((0, 0), ([], []))) := (kT_255 13).trans rfl
theorem r_255_15 : xT.1 255 15 = some (.iconst 1, ((0, 0), ([.int 1], []))) := (kT_255 15).trans rfl
theorem r_255_16 : xT.1 255 16 = some (.ireturn, ((0, 0), ([], []))) := (kT_255 16).trans rfl
theorem r_255_17 : xT.1 255 17 = some (.astore 4, ((0, 0), ([], []))) := (kT_255 17).trans rfl
theorem r_255_19 : xT.1 255 19 = some (.iconst 2, ((0, 0), ([.int 2], []))) := (kT_255 19).trans rfl
theorem r_255_20 : xT.1 255 20 = some (.ireturn, ((0, 0), ([], []))) := (kT_255 20).trans rfl
theorem r_255_21 : xT.1 255 21 = some (.iconst 0, ((0, 0), ([.int 0], []))) := (kT_255 21).trans rfl
theorem r_255_22 : xT.1 255 22 = some (.ireturn, ((0, 0), ([], []))) := (kT_255 22).trans rfl
theorem kT_256 (pc : Nat) : xT.1 256 pc = xfind k_256 pc := rfl
theorem r_256_0 : xT.1 256 0 = some (.aload_n 3, ((0, 0), ([], []))) := (kT_256 0).trans rfl
theorem r_256_1 : xT.1 256 1 = some (.iconst 0, ((0, 0), ([.int 0], []))) := (kT_256 1).trans rfl
theorem r_256_2 : xT.1 256 2 = some (.aload_n 0, ((0, 0), ([], []))) := (kT_256 2).trans rfl
theorem r_256_3 : xT.1 256 3 = some (.iload_n 1, ((0, 0), ([], []))) := (kT_256 3).trans rfl
theorem r_256_4 : xT.1 256 4 = some (.iload_n 2, ((0, 0), ([], []))) := (kT_256 4).trans rfl
theorem r_256_5 : xT.1 256 5 = some (.invokevirtual 63, ((101, 3), ([], [0]))) := (kT_256 5).trans rfl
theorem r_256_8 : xT.1 256 8 = some (.ifCond .eq 7, ((15, 0), ([], []))) := (kT_256 8).trans rfl
theorem r_256_11 : xT.1 256 11 = some (.lconst 1, ((0, 0), ([.long 1], []))) := (kT_256 11).trans rfl
theorem r_256_12 : xT.1 256 12 = some (.goto 4, ((16, 0), ([], []))) := (kT_256 12).trans rfl
theorem r_256_15 : xT.1 256 15 = some (.lconst 0, ((0, 0), ([.long 0], []))) := (kT_256 15).trans rfl
theorem r_256_16 : xT.1 256 16 = some (.lastore, ((0, 0), ([], []))) := (kT_256 16).trans rfl
theorem r_256_17 : xT.1 256 17 = some (.goto 11, ((28, 0), ([], []))) := (kT_256 17).trans rfl
theorem r_256_20 : xT.1 256 20 = some (.astore 4, ((0, 0), ([], []))) := (kT_256 20).trans rfl
theorem r_256_22 : xT.1 256 22 = some (.iconst 1, ((0, 0), ([.int 1], []))) := (kT_256 22).trans rfl
theorem r_256_23 : xT.1 256 23 = some (.ireturn, ((0, 0), ([], []))) := (kT_256 23).trans rfl
theorem r_256_24 : xT.1 256 24 = some (.astore 4, ((0, 0), ([], []))) := (kT_256 24).trans rfl
theorem r_256_26 : xT.1 256 26 = some (.iconst 2, ((0, 0), ([.int 2], []))) := (kT_256 26).trans rfl
theorem r_256_27 : xT.1 256 27 = some (.ireturn, ((0, 0), ([], []))) := (kT_256 27).trans rfl
theorem r_256_28 : xT.1 256 28 = some (.iconst 0, ((0, 0), ([.int 0], []))) := (kT_256 28).trans rfl
theorem r_256_29 : xT.1 256 29 = some (.ireturn, ((0, 0), ([], []))) := (kT_256 29).trans rfl
theorem kT_257 (pc : Nat) : xT.1 257 pc = xfind k_257 pc := rfl
theorem r_257_0 : xT.1 257 0 = some (.aload_n 3, ((0, 0), ([], []))) := (kT_257 0).trans rfl
theorem r_257_1 : xT.1 257 1 = some (.iconst 0, ((0, 0), ([.int 0], []))) := (kT_257 1).trans rfl
theorem r_257_2 : xT.1 257 2 = some (.aload_n 0, ((0, 0), ([], []))) := (kT_257 2).trans rfl
theorem r_257_3 : xT.1 257 3 = some (.iload_n 1, ((0, 0), ([], []))) := (kT_257 3).trans rfl
theorem r_257_4 : xT.1 257 4 = some (.iload_n 2, ((0, 0), ([], []))) := (kT_257 4).trans rfl
theorem r_257_5 : xT.1 257 5 = some (.invokevirtual 67, ((102, 3), ([], [0]))) := (kT_257 5).trans rfl
theorem r_257_8 : xT.1 257 8 = some (.i2l, ((0, 0), ([], []))) := (kT_257 8).trans rfl
theorem r_257_9 : xT.1 257 9 = some (.lastore, ((0, 0), ([], []))) := (kT_257 9).trans rfl
theorem r_257_10 : xT.1 257 10 = some (.goto 11, ((21, 0), ([], []))) := (kT_257 10).trans rfl
theorem r_257_13 : xT.1 257 13 = some (.astore 4, ((0, 0), ([], []))) := (kT_257 13).trans rfl
theorem r_257_15 : xT.1 257 15 = some (.iconst 1, ((0, 0), ([.int 1], []))) := (kT_257 15).trans rfl
theorem r_257_16 : xT.1 257 16 = some (.ireturn, ((0, 0), ([], []))) := (kT_257 16).trans rfl
theorem r_257_17 : xT.1 257 17 = some (.astore 4, ((0, 0), ([], []))) := (kT_257 17).trans rfl
theorem r_257_19 : xT.1 257 19 = some (.iconst 2, ((0, 0), ([.int 2], []))) := (kT_257 19).trans rfl
theorem r_257_20 : xT.1 257 20 = some (.ireturn, ((0, 0), ([], []))) := (kT_257 20).trans rfl
theorem r_257_21 : xT.1 257 21 = some (.iconst 0, ((0, 0), ([.int 0], []))) := (kT_257 21).trans rfl
theorem r_257_22 : xT.1 257 22 = some (.ireturn, ((0, 0), ([], []))) := (kT_257 22).trans rfl
theorem kT_258 (pc : Nat) : xT.1 258 pc = xfind k_258 pc := rfl
theorem r_258_0 : xT.1 258 0 = some (.aload_n 3, ((0, 0), ([], []))) := (kT_258 0).trans rfl
theorem r_258_1 : xT.1 258 1 = some (.iconst 0, ((0, 0), ([.int 0], []))) := (kT_258 1).trans rfl
theorem r_258_2 : xT.1 258 2 = some (.aload_n 0, ((0, 0), ([], []))) := (kT_258 2).trans rfl
theorem r_258_3 : xT.1 258 3 = some (.iload_n 1, ((0, 0), ([], []))) := (kT_258 3).trans rfl
theorem r_258_4 : xT.1 258 4 = some (.iload_n 2, ((0, 0), ([], []))) := (kT_258 4).trans rfl
theorem r_258_5 : xT.1 258 5 = some (.invokevirtual 70, ((103, 3), ([], [0]))) := (kT_258 5).trans rfl
theorem r_258_8 : xT.1 258 8 = some (.i2l, ((0, 0), ([], []))) := (kT_258 8).trans rfl
theorem r_258_9 : xT.1 258 9 = some (.lastore, ((0, 0), ([], []))) := (kT_258 9).trans rfl
theorem r_258_10 : xT.1 258 10 = some (.goto 11, ((21, 0), ([], []))) := (kT_258 10).trans rfl
theorem r_258_13 : xT.1 258 13 = some (.astore 4, ((0, 0), ([], []))) := (kT_258 13).trans rfl
theorem r_258_15 : xT.1 258 15 = some (.iconst 1, ((0, 0), ([.int 1], []))) := (kT_258 15).trans rfl
theorem r_258_16 : xT.1 258 16 = some (.ireturn, ((0, 0), ([], []))) := (kT_258 16).trans rfl
theorem r_258_17 : xT.1 258 17 = some (.astore 4, ((0, 0), ([], []))) := (kT_258 17).trans rfl
theorem r_258_19 : xT.1 258 19 = some (.iconst 2, ((0, 0), ([.int 2], []))) := (kT_258 19).trans rfl
theorem r_258_20 : xT.1 258 20 = some (.ireturn, ((0, 0), ([], []))) := (kT_258 20).trans rfl
theorem r_258_21 : xT.1 258 21 = some (.iconst 0, ((0, 0), ([.int 0], []))) := (kT_258 21).trans rfl
theorem r_258_22 : xT.1 258 22 = some (.ireturn, ((0, 0), ([], []))) := (kT_258 22).trans rfl
theorem kT_259 (pc : Nat) : xT.1 259 pc = xfind k_259 pc := rfl
theorem r_259_0 : xT.1 259 0 = some (.aload_n 3, ((0, 0), ([], []))) := (kT_259 0).trans rfl
theorem r_259_1 : xT.1 259 1 = some (.iconst 0, ((0, 0), ([.int 0], []))) := (kT_259 1).trans rfl
theorem r_259_2 : xT.1 259 2 = some (.aload_n 0, ((0, 0), ([], []))) := (kT_259 2).trans rfl
theorem r_259_3 : xT.1 259 3 = some (.iload_n 1, ((0, 0), ([], []))) := (kT_259 3).trans rfl
theorem r_259_4 : xT.1 259 4 = some (.iload_n 2, ((0, 0), ([], []))) := (kT_259 4).trans rfl
theorem r_259_5 : xT.1 259 5 = some (.invokevirtual 73, ((104, 3), ([], [0]))) := (kT_259 5).trans rfl
theorem r_259_8 : xT.1 259 8 = some (.i2l, ((0, 0), ([], []))) := (kT_259 8).trans rfl
theorem r_259_9 : xT.1 259 9 = some (.lastore, ((0, 0), ([], []))) := (kT_259 9).trans rfl
theorem r_259_10 : xT.1 259 10 = some (.goto 11, ((21, 0), ([], []))) := (kT_259 10).trans rfl
theorem r_259_13 : xT.1 259 13 = some (.astore 4, ((0, 0), ([], []))) := (kT_259 13).trans rfl
theorem r_259_15 : xT.1 259 15 = some (.iconst 1, ((0, 0), ([.int 1], []))) := (kT_259 15).trans rfl
theorem r_259_16 : xT.1 259 16 = some (.ireturn, ((0, 0), ([], []))) := (kT_259 16).trans rfl
theorem r_259_17 : xT.1 259 17 = some (.astore 4, ((0, 0), ([], []))) := (kT_259 17).trans rfl
theorem r_259_19 : xT.1 259 19 = some (.iconst 2, ((0, 0), ([.int 2], []))) := (kT_259 19).trans rfl
theorem r_259_20 : xT.1 259 20 = some (.ireturn, ((0, 0), ([], []))) := (kT_259 20).trans rfl
theorem r_259_21 : xT.1 259 21 = some (.iconst 0, ((0, 0), ([.int 0], []))) := (kT_259 21).trans rfl
theorem r_259_22 : xT.1 259 22 = some (.ireturn, ((0, 0), ([], []))) := (kT_259 22).trans rfl
theorem kT_260 (pc : Nat) : xT.1 260 pc = xfind k_260 pc := rfl
theorem r_260_0 : xT.1 260 0 = some (.aload_n 3, ((0, 0), ([], []))) := (kT_260 0).trans rfl
theorem r_260_1 : xT.1 260 1 = some (.iconst 0, ((0, 0), ([.int 0], []))) := (kT_260 1).trans rfl
theorem r_260_2 : xT.1 260 2 = some (.aload_n 0, ((0, 0), ([], []))) := (kT_260 2).trans rfl
theorem r_260_3 : xT.1 260 3 = some (.iload_n 1, ((0, 0), ([], []))) := (kT_260 3).trans rfl
theorem r_260_4 : xT.1 260 4 = some (.iload_n 2, ((0, 0), ([], []))) := (kT_260 4).trans rfl
theorem r_260_5 : xT.1 260 5 = some (.invokevirtual 76, ((105, 3), ([], [0]))) := (kT_260 5).trans rfl
theorem r_260_8 : xT.1 260 8 = some (.i2l, ((0, 0), ([], []))) := (kT_260 8).trans rfl
theorem r_260_9 : xT.1 260 9 = some (.lastore, ((0, 0), ([], []))) := (kT_260 9).trans rfl
theorem r_260_10 : xT.1 260 10 = some (.goto 11, ((21, 0), ([], []))) := (kT_260 10).trans rfl
theorem r_260_13 : xT.1 260 13 = some (.astore 4, ((0, 0), ([], []))) := (kT_260 13).trans rfl
theorem r_260_15 : xT.1 260 15 = some (.iconst 1, ((0, 0), ([.int 1], []))) := (kT_260 15).trans rfl
theorem r_260_16 : xT.1 260 16 = some (.ireturn, ((0, 0), ([], []))) := (kT_260 16).trans rfl
theorem r_260_17 : xT.1 260 17 = some (.astore 4, ((0, 0), ([], []))) := (kT_260 17).trans rfl
theorem r_260_19 : xT.1 260 19 = some (.iconst 2, ((0, 0), ([.int 2], []))) := (kT_260 19).trans rfl
theorem r_260_20 : xT.1 260 20 = some (.ireturn, ((0, 0), ([], []))) := (kT_260 20).trans rfl
theorem r_260_21 : xT.1 260 21 = some (.iconst 0, ((0, 0), ([.int 0], []))) := (kT_260 21).trans rfl
theorem r_260_22 : xT.1 260 22 = some (.ireturn, ((0, 0), ([], []))) := (kT_260 22).trans rfl
theorem kT_261 (pc : Nat) : xT.1 261 pc = xfind k_261 pc := rfl
theorem r_261_0 : xT.1 261 0 = some (.aload_n 3, ((0, 0), ([], []))) := (kT_261 0).trans rfl
theorem r_261_1 : xT.1 261 1 = some (.iconst 0, ((0, 0), ([.int 0], []))) := (kT_261 1).trans rfl
theorem r_261_2 : xT.1 261 2 = some (.aload_n 0, ((0, 0), ([], []))) := (kT_261 2).trans rfl
theorem r_261_3 : xT.1 261 3 = some (.iload_n 1, ((0, 0), ([], []))) := (kT_261 3).trans rfl
theorem r_261_4 : xT.1 261 4 = some (.iload_n 2, ((0, 0), ([], []))) := (kT_261 4).trans rfl
theorem r_261_5 : xT.1 261 5 = some (.invokevirtual 79, ((106, 3), ([], [0]))) := (kT_261 5).trans rfl
theorem r_261_8 : xT.1 261 8 = some (.i2l, ((0, 0), ([], []))) := (kT_261 8).trans rfl
theorem r_261_9 : xT.1 261 9 = some (.lastore, ((0, 0), ([], []))) := (kT_261 9).trans rfl
theorem r_261_10 : xT.1 261 10 = some (.goto 11, ((21, 0), ([], []))) := (kT_261 10).trans rfl
theorem r_261_13 : xT.1 261 13 = some (.astore 4, ((0, 0), ([], []))) := (kT_261 13).trans rfl
theorem r_261_15 : xT.1 261 15 = some (.iconst 1, ((0, 0), ([.int 1], []))) := (kT_261 15).trans rfl
theorem r_261_16 : xT.1 261 16 = some (.ireturn, ((0, 0), ([], []))) := (kT_261 16).trans rfl
theorem r_261_17 : xT.1 261 17 = some (.astore 4, ((0, 0), ([], []))) := (kT_261 17).trans rfl
theorem r_261_19 : xT.1 261 19 = some (.iconst 2, ((0, 0), ([.int 2], []))) := (kT_261 19).trans rfl
theorem r_261_20 : xT.1 261 20 = some (.ireturn, ((0, 0), ([], []))) := (kT_261 20).trans rfl
theorem r_261_21 : xT.1 261 21 = some (.iconst 0, ((0, 0), ([.int 0], []))) := (kT_261 21).trans rfl
theorem r_261_22 : xT.1 261 22 = some (.ireturn, ((0, 0), ([], []))) := (kT_261 22).trans rfl
theorem kT_262 (pc : Nat) : xT.1 262 pc = xfind k_262 pc := rfl
theorem r_262_0 : xT.1 262 0 = some (.aload_n 3, ((0, 0), ([], []))) := (kT_262 0).trans rfl
theorem r_262_1 : xT.1 262 1 = some (.iconst 0, ((0, 0), ([.int 0], []))) := (kT_262 1).trans rfl
theorem r_262_2 : xT.1 262 2 = some (.aload_n 0, ((0, 0), ([], []))) := (kT_262 2).trans rfl
theorem r_262_3 : xT.1 262 3 = some (.iload_n 1, ((0, 0), ([], []))) := (kT_262 3).trans rfl
theorem r_262_4 : xT.1 262 4 = some (.iload_n 2, ((0, 0), ([], []))) := (kT_262 4).trans rfl
theorem r_262_5 : xT.1 262 5 = some (.invokevirtual 82, ((107, 3), ([], [0]))) := (kT_262 5).trans rfl
theorem r_262_8 : xT.1 262 8 = some (.i2l, ((0, 0), ([], []))) := (kT_262 8).trans rfl
theorem r_262_9 : xT.1 262 9 = some (.lastore, ((0, 0), ([], []))) := (kT_262 9).trans rfl
theorem r_262_10 : xT.1 262 10 = some (.goto 11, ((21, 0), ([], []))) := (kT_262 10).trans rfl
theorem r_262_13 : xT.1 262 13 = some (.astore 4, ((0, 0), ([], []))) := (kT_262 13).trans rfl
theorem r_262_15 : xT.1 262 15 = some (.iconst 1, ((0, 0), ([.int 1], []))) := (kT_262 15).trans rfl
theorem r_262_16 : xT.1 262 16 = some (.ireturn, ((0, 0), ([], []))) := (kT_262 16).trans rfl
theorem r_262_17 : xT.1 262 17 = some (.astore 4, ((0, 0), ([], []))) := (kT_262 17).trans rfl
theorem r_262_19 : xT.1 262 19 = some (.iconst 2, ((0, 0), ([.int 2], []))) := (kT_262 19).trans rfl
theorem r_262_20 : xT.1 262 20 = some (.ireturn, ((0, 0), ([], []))) := (kT_262 20).trans rfl
theorem r_262_21 : xT.1 262 21 = some (.iconst 0, ((0, 0), ([.int 0], []))) := (kT_262 21).trans rfl
theorem r_262_22 : xT.1 262 22 = some (.ireturn, ((0, 0), ([], []))) := (kT_262 22).trans rfl
theorem kT_263 (pc : Nat) : xT.1 263 pc = xfind k_263 pc := rfl
theorem r_263_0 : xT.1 263 0 = some (.aload_n 2, ((0, 0), ([], []))) := (kT_263 0).trans rfl
theorem r_263_1 : xT.1 263 1 = some (.iconst 0, ((0, 0), ([.int 0], []))) := (kT_263 1).trans rfl
theorem r_263_2 : xT.1 263 2 = some (.aload_n 0, ((0, 0), ([], []))) := (kT_263 2).trans rfl
theorem r_263_3 : xT.1 263 3 = some (.iload_n 1, ((0, 0), ([], []))) := (kT_263 3).trans rfl
theorem r_263_4 : xT.1 263 4 = some (.invokevirtual 85, ((108, 2), ([], [0]))) := (kT_263 4).trans rfl
theorem r_263_7 : xT.1 263 7 = some (.i2l, ((0, 0), ([], []))) := (kT_263 7).trans rfl
theorem r_263_8 : xT.1 263 8 = some (.lastore, ((0, 0), ([], []))) := (kT_263 8).trans rfl
theorem r_263_9 : xT.1 263 9 = some (.goto 6, ((15, 0), ([], []))) := (kT_263 9).trans rfl
theorem r_263_12 : xT.1 263 12 = some (.astore_n 3, ((0, 0), ([], []))) := (kT_263 12).trans rfl
theorem r_263_13 : xT.1 263 13 = some (.iconst 1, ((0, 0), ([.int 1], []))) := (kT_263 13).trans rfl
theorem r_263_14 : xT.1 263 14 = some (.ireturn, ((0, 0), ([], []))) := (kT_263 14).trans rfl
theorem r_263_15 : xT.1 263 15 = some (.iconst 0, ((0, 0), ([.int 0], []))) := (kT_263 15).trans rfl
theorem r_263_16 : xT.1 263 16 = some (.ireturn, ((0, 0), ([], []))) := (kT_263 16).trans rfl
theorem kT_264 (pc : Nat) : xT.1 264 pc = xfind k_264 pc := rfl
theorem r_264_0 : xT.1 264 0 = some (.aload_n 2, ((0, 0), ([], []))) := (kT_264 0).trans rfl
theorem r_264_1 : xT.1 264 1 = some (.iconst 0, ((0, 0), ([.int 0], []))) := (kT_264 1).trans rfl
theorem r_264_2 : xT.1 264 2 = some (.aload_n 0, ((0, 0), ([], []))) := (kT_264 2).trans rfl
theorem r_264_3 : xT.1 264 3 = some (.iload_n 1, ((0, 0), ([], []))) := (kT_264 3).trans rfl
theorem r_264_4 : xT.1 264 4 = some (.invokevirtual 88, ((109, 2), ([], [0]))) := (kT_264 4).trans rfl
theorem r_264_7 : xT.1 264 7 = some (.i2l, ((0, 0), ([], []))) := (kT_264 7).trans rfl
theorem r_264_8 : xT.1 264 8 = some (.lastore, ((0, 0), ([], []))) := (kT_264 8).trans rfl
theorem r_264_9 : xT.1 264 9 = some (.goto 6, ((15, 0), ([], []))) := (kT_264 9).trans rfl
theorem r_264_12 : xT.1 264 12 = some (.astore_n 3, ((0, 0), ([], []))) := (kT_264 12).trans rfl
theorem r_264_13 : xT.1 264 13 = some (.iconst 1, ((0, 0), ([.int 1], []))) := (kT_264 13).trans rfl
theorem r_264_14 : xT.1 264 14 = some (.ireturn, ((0, 0), ([], []))) := (kT_264 14).trans rfl
theorem r_264_15 : xT.1 264 15 = some (.iconst 0, ((0, 0), ([.int 0], []))) := (kT_264 15).trans rfl
theorem r_264_16 : xT.1 264 16 = some (.ireturn, ((0, 0), ([], []))) := (kT_264 16).trans rfl
theorem kT_265 (pc : Nat) : xT.1 265 pc = xfind k_265 pc := rfl
theorem r_265_0 : xT.1 265 0 = some (.aload_n 2, ((0, 0), ([], []))) := (kT_265 0).trans rfl
theorem r_265_1 : xT.1 265 1 = some (.iconst 0, ((0, 0), ([.int 0], []))) := (kT_265 1).trans rfl
theorem r_265_2 : xT.1 265 2 = some (.aload_n 0, ((0, 0), ([], []))) := (kT_265 2).trans rfl
theorem r_265_3 : xT.1 265 3 = some (.iload_n 1, ((0, 0), ([], []))) := (kT_265 3).trans rfl
theorem r_265_4 : xT.1 265 4 = some (.invokevirtual 91, ((110, 2), ([], [0]))) := (kT_265 4).trans rfl
theorem r_265_7 : xT.1 265 7 = some (.i2l, ((0, 0), ([], []))) := (kT_265 7).trans rfl
theorem r_265_8 : xT.1 265 8 = some (.lastore, ((0, 0), ([], []))) := (kT_265 8).trans rfl
theorem r_265_9 : xT.1 265 9 = some (.goto 6, ((15, 0), ([], []))) := (kT_265 9).trans rfl
theorem r_265_12 : xT.1 265 12 = some (.astore_n 3, ((0, 0), ([], []))) := (kT_265 12).trans rfl
theorem r_265_13 : xT.1 265 13 = some (.iconst 1, ((0, 0), ([.int 1], []))) := (kT_265 13).trans rfl
theorem r_265_14 : xT.1 265 14 = some (.ireturn, ((0, 0), ([], []))) := (kT_265 14).trans rfl
theorem r_265_15 : xT.1 265 15 = some (.iconst 0, ((0, 0), ([.int 0], []))) := (kT_265 15).trans rfl
theorem r_265_16 : xT.1 265 16 = some (.ireturn, ((0, 0), ([], []))) := (kT_265 16).trans rfl
theorem kT_266 (pc : Nat) : xT.1 266 pc = xfind k_266 pc := rfl
theorem r_266_0 : xT.1 266 0 = some (.aload_n 2, ((0, 0), ([], []))) := (kT_266 0).trans rfl
theorem r_266_1 : xT.1 266 1 = some (.iconst 0, ((0, 0), ([.int 0], []))) := (kT_266 1).trans rfl
theorem r_266_2 : xT.1 266 2 = some (.aload_n 0, ((0, 0), ([], []))) := (kT_266 2).trans rfl
theorem r_266_3 : xT.1 266 3 = some (.iload_n 1, ((0, 0), ([], []))) := (kT_266 3).trans rfl
theorem r_266_4 : xT.1 266 4 = some (.invokevirtual 94, ((112, 2), ([], [0]))) := (kT_266 4).trans rfl
theorem r_266_7 : xT.1 266 7 = some (.i2l, ((0, 0), ([], []))) := (kT_266 7).trans rfl
theorem r_266_8 : xT.1 266 8 = some (.lastore, ((0, 0), ([], []))) := (kT_266 8).trans rfl
theorem r_266_9 : xT.1 266 9 = some (.goto 6, ((15, 0), ([], []))) := (kT_266 9).trans rfl
theorem r_266_12 : xT.1 266 12 = some (.astore_n 3, ((0, 0), ([], []))) := (kT_266 12).trans rfl
theorem r_266_13 : xT.1 266 13 = some (.iconst 1, ((0, 0), ([.int 1], []))) := (kT_266 13).trans rfl
theorem r_266_14 : xT.1 266 14 = some (.ireturn, ((0, 0), ([], []))) := (kT_266 14).trans rfl
theorem r_266_15 : xT.1 266 15 = some (.iconst 0, ((0, 0), ([.int 0], []))) := (kT_266 15).trans rfl
theorem r_266_16 : xT.1 266 16 = some (.ireturn, ((0, 0), ([], []))) := (kT_266 16).trans rfl
theorem kT_267 (pc : Nat) : xT.1 267 pc = xfind k_267 pc := rfl
theorem r_267_0 : xT.1 267 0 = some (.aload_n 2, ((0, 0), ([], []))) := (kT_267 0).trans rfl
theorem r_267_1 : xT.1 267 1 = some (.iconst 0, ((0, 0), ([.int 0], []))) := (kT_267 1).trans rfl
theorem r_267_2 : xT.1 267 2 = some (.aload_n 0, ((0, 0), ([], []))) := (kT_267 2).trans rfl
theorem r_267_3 : xT.1 267 3 = some (.iload_n 1, ((0, 0), ([], []))) := (kT_267 3).trans rfl
theorem r_267_4 : xT.1 267 4 = some (.invokevirtual 97, ((113, 2), ([], [0]))) := (kT_267 4).trans rfl
theorem r_267_7 : xT.1 267 7 = some (.i2l, ((0, 0), ([], []))) := (kT_267 7).trans rfl
theorem r_267_8 : xT.1 267 8 = some (.lastore, ((0, 0), ([], []))) := (kT_267 8).trans rfl
theorem r_267_9 : xT.1 267 9 = some (.goto 6, ((15, 0), ([], []))) := (kT_267 9).trans rfl
theorem r_267_12 : xT.1 267 12 = some (.astore_n 3, ((0, 0), ([], []))) := (kT_267 12).trans rfl
theorem r_267_13 : xT.1 267 13 = some (.iconst 1, ((0, 0), ([.int 1], []))) := (kT_267 13).trans rfl
theorem r_267_14 : xT.1 267 14 = some (.ireturn, ((0, 0), ([], []))) := (kT_267 14).trans rfl
theorem r_267_15 : xT.1 267 15 = some (.iconst 0, ((0, 0), ([.int 0], []))) := (kT_267 15).trans rfl
theorem r_267_16 : xT.1 267 16 = some (.ireturn, ((0, 0), ([], []))) := (kT_267 16).trans rfl
theorem kT_268 (pc : Nat) : xT.1 268 pc = xfind k_268 pc := rfl
theorem r_268_0 : xT.1 268 0 = some (.aload_n 2, ((0, 0), ([], []))) := (kT_268 0).trans rfl
theorem r_268_1 : xT.1 268 1 = some (.iconst 0, ((0, 0), ([.int 0], []))) := (kT_268 1).trans rfl
theorem r_268_2 : xT.1 268 2 = some (.aload_n 0, ((0, 0), ([], []))) := (kT_268 2).trans rfl
theorem r_268_3 : xT.1 268 3 = some (.iload_n 1, ((0, 0), ([], []))) := (kT_268 3).trans rfl
theorem r_268_4 : xT.1 268 4 = some (.invokevirtual 100, ((114, 2), ([], [0]))) := (kT_268 4).trans rfl
theorem r_268_7 : xT.1 268 7 = some (.i2l, ((0, 0), ([], []))) := (kT_268 7).trans rfl
theorem r_268_8 : xT.1 268 8 = some (.lastore, ((0, 0), ([], []))) := (kT_268 8).trans rfl
theorem r_268_9 : xT.1 268 9 = some (.goto 6, ((15, 0), ([], []))) := (kT_268 9).trans rfl
theorem r_268_12 : xT.1 268 12 = some (.astore_n 3, ((0, 0), ([], []))) := (kT_268 12).trans rfl
theorem r_268_13 : xT.1 268 13 = some (.iconst 1, ((0, 0), ([.int 1], []))) := (kT_268 13).trans rfl
theorem r_268_14 : xT.1 268 14 = some (.ireturn, ((0, 0), ([], []))) := (kT_268 14).trans rfl
theorem r_268_15 : xT.1 268 15 = some (.iconst 0, ((0, 0), ([.int 0], []))) := (kT_268 15).trans rfl
theorem r_268_16 : xT.1 268 16 = some (.ireturn, ((0, 0), ([], []))) := (kT_268 16).trans rfl
theorem kT_269 (pc : Nat) : xT.1 269 pc = xfind k_269 pc := rfl
theorem r_269_0 : xT.1 269 0 = some (.aload_n 2, ((0, 0), ([], []))) := (kT_269 0).trans rfl
theorem r_269_1 : xT.1 269 1 = some (.iconst 0, ((0, 0), ([.int 0], []))) := (kT_269 1).trans rfl
theorem r_269_2 : xT.1 269 2 = some (.aload_n 0, ((0, 0), ([], []))) := (kT_269 2).trans rfl
theorem r_269_3 : xT.1 269 3 = some (.iload_n 1, ((0, 0), ([], []))) := (kT_269 3).trans rfl
theorem r_269_4 : xT.1 269 4 = some (.invokevirtual 103, ((115, 2), ([], [0]))) := (kT_269 4).trans rfl
theorem r_269_7 : xT.1 269 7 = some (.i2l, ((0, 0), ([], []))) := (kT_269 7).trans rfl
theorem r_269_8 : xT.1 269 8 = some (.lastore, ((0, 0), ([], []))) := (kT_269 8).trans rfl
theorem r_269_9 : xT.1 269 9 = some (.goto 6, ((15, 0), ([], []))) := (kT_269 9).trans rfl
theorem r_269_12 : xT.1 269 12 = some (.astore_n 3, ((0, 0), ([], []))) := (kT_269 12).trans rfl
theorem r_269_13 : xT.1 269 13 = some (.iconst 1, ((0, 0), ([.int 1], []))) := (kT_269 13).trans rfl
theorem r_269_14 : xT.1 269 14 = some (.ireturn, ((0, 0), ([], []))) := (kT_269 14).trans rfl
theorem r_269_15 : xT.1 269 15 = some (.iconst 0, ((0, 0), ([.int 0], []))) := (kT_269 15).trans rfl
theorem r_269_16 : xT.1 269 16 = some (.ireturn, ((0, 0), ([], []))) := (kT_269 16).trans rfl
