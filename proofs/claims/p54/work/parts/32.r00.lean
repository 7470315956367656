/-! the rows of the tables, one by one -/
theorem kT_0 (pc : Nat) : xT.1 0 pc = xfind k_0 pc := rfl
theorem r_0_0 : xT.1 0 0 = some (.aload_n 0, ((0, 0), ([], []))) := (kT_0 0).trans rfl
theorem r_0_1 : xT.1 0 1 = some (.invokespecial 3, ((0, 1), ([], [5]))) := (kT_0 1).trans rfl
theorem r_0_4 : xT.1 0 4 = some (.aload_n 0, ((0, 0), ([], []))) := (kT_0 4).trans rfl
theorem r_0_5 : xT.1 0 5 = some (.bipush 10, ((0, 0), ([.int 10], []))) := (kT_0 5).trans rfl
theorem r_0_7 : xT.1 0 7 = some (.newarray .int, ((0, 0), ([], []))) := (kT_0 7).trans rfl
theorem r_0_9 : xT.1 0 9 = some (.putfield 9, ((0, 0), ([], [2]))) := (kT_0 9).trans rfl
theorem r_0_12 : xT.1 0 12 = some (.aload_n 0, ((0, 0), ([], []))) := (kT_0 12).trans rfl
theorem r_0_13 : xT.1 0 13 = some (.bipush 10, ((0, 0), ([.int 10], []))) := (kT_0 13).trans rfl
theorem r_0_15 : xT.1 0 15 = some (.newarray .int, ((0, 0), ([], []))) := (kT_0 15).trans rfl
theorem r_0_17 : xT.1 0 17 = some (.putfield 15, ((0, 1), ([], [2]))) := (kT_0 17).trans rfl
theorem r_0_20 : xT.1 0 20 = some (.return_, ((0, 0), ([], []))) := (kT_0 20).trans rfl
theorem kT_1 (pc : Nat) : xT.1 1 pc = xfind k_1 pc := rfl
theorem r_1_0 : xT.1 1 0 = some (.aload_n 0, ((0, 0), ([], []))) := (kT_1 0).trans rfl
theorem r_1_1 : xT.1 1 1 = some (.getfield 9, ((0, 0), ([], []))) := (kT_1 1).trans rfl
theorem r_1_4 : xT.1 1 4 = some (.iconst 0, ((0, 0), ([.int 0], []))) := (kT_1 4).trans rfl
theorem r_1_5 : xT.1 1 5 = some (.invokestatic 18, ((290, 2), ([], [1]))) := (kT_1 5).trans rfl
theorem r_1_8 : xT.1 1 8 = some (.aload_n 0, ((0, 0), ([], []))) := (kT_1 8).trans rfl
theorem r_1_9 : xT.1 1 9 = some (.getfield 15, ((0, 1), ([], []))) := (kT_1 9).trans rfl
theorem r_1_12 : xT.1 1 12 = some (.iconst 0, ((0, 0), ([.int 0], []))) := (kT_1 12).trans rfl
theorem r_1_13 : xT.1 1 13 = some (.invokestatic 18, ((290, 2), ([], [1]))) := (kT_1 13).trans rfl
theorem r_1_16 : xT.1 1 16 = some (.return_, ((0, 0), ([], []))) := (kT_1 16).trans rfl
theorem kT_2 (pc : Nat) : xT.1 2 pc = xfind k_2 pc := rfl
theorem r_2_0 : xT.1 2 0 = some (.aload_n 1, ((0, 0), ([], []))) := (kT_2 0).trans rfl
theorem r_2_1 : xT.1 2 1 = some (.getfield 9, ((0, 0), ([], []))) := (kT_2 1).trans rfl
theorem r_2_4 : xT.1 2 4 = some (.iconst 0, ((0, 0), ([.int 0], []))) := (kT_2 4).trans rfl
theorem r_2_5 : xT.1 2 5 = some (.aload_n 0, ((0, 0), ([], []))) := (kT_2 5).trans rfl
theorem r_2_6 : xT.1 2 6 = some (.getfield 9, ((0, 0), ([], []))) := (kT_2 6).trans rfl
theorem r_2_9 : xT.1 2 9 = some (.iconst 0, ((0, 0), ([.int 0], []))) := (kT_2 9).trans rfl
theorem r_2_10 : xT.1 2 10 = some (.aload_n 0, ((0, 0), ([], []))) := (kT_2 10).trans rfl
theorem r_2_11 : xT.1 2 11 = some (.getfield 9, ((0, 0), ([], []))) := (kT_2 11).trans rfl
theorem r_2_14 : xT.1 2 14 = some (.arraylength, ((0, 0), ([], []))) := (kT_2 14).trans rfl
theorem r_2_15 : xT.1 2 15 = some (.invokestatic 24, ((0, 5), ([], [4]))) := (kT_2 15).trans rfl
theorem r_2_18 : xT.1 2 18 = some (.aload_n 1, ((0, 0), ([], []))) := (kT_2 18).trans rfl
theorem r_2_19 : xT.1 2 19 = some (.getfield 15, ((0, 1), ([], []))) := (kT_2 19).trans rfl
theorem r_2_22 : xT.1 2 22 = some (.iconst 0, ((0, 0), ([.int 0], []))) := (kT_2 22).trans rfl
theorem r_2_23 : xT.1 2 23 = some (.aload_n 0, ((0, 0), ([], []))) := (kT_2 23).trans rfl
theorem r_2_24 : xT.1 2 24 = some (.getfield 15, ((0, 1), ([], []))) := (kT_2 24).trans rfl
theorem r_2_27 : xT.1 2 27 = some (.iconst 0, ((0, 0), ([.int 0], []))) := (kT_2 27).trans rfl
theorem r_2_28 : xT.1 2 28 = some (.aload_n 0, ((0, 0), ([], []))) := (kT_2 28).trans rfl
theorem r_2_29 : xT.1 2 29 = some (.getfield 15, ((0, 1), ([], []))) := (kT_2 29).trans rfl
theorem r_2_32 : xT.1 2 32 = some (.arraylength, ((0, 0), ([], []))) := (kT_2 32).trans rfl
theorem r_2_33 : xT.1 2 33 = some (.invokestatic 24, ((0, 5), ([], [4]))) := (kT_2 33).trans rfl
theorem r_2_36 : xT.1 2 36 = some (.return_, ((0, 0), ([], []))) := (kT_2 36).trans rfl
theorem kT_3 (pc : Nat) : xT.1 3 pc = xfind k_3 pc := rfl
theorem r_3_0 : xT.1 3 0 = some (.iload_n 1, ((0, 0), ([], []))) := (kT_3 0).trans rfl
theorem r_3_1 : xT.1 3 1 = some (.invokestatic 30, ((137, 1), ([], [3]))) := (kT_3 1).trans rfl
theorem r_3_4 : xT.1 3 4 = some (.ifCond .ne 4, ((8, 0), ([], []))) := (kT_3 4).trans rfl
theorem r_3_7 : xT.1 3 7 = some (.return_, ((0, 0), ([], []))) := (kT_3 7).trans rfl
theorem r_3_8 : xT.1 3 8 = some (.aload_n 0, ((0, 0), ([], []))) := (kT_3 8).trans rfl
theorem r_3_9 : xT.1 3 9 = some (.getfield 9, ((0, 0), ([], []))) := (kT_3 9).trans rfl
theorem r_3_12 : xT.1 3 12 = some (.iload_n 1, ((0, 0), ([], []))) := (kT_3 12).trans rfl
theorem r_3_13 : xT.1 3 13 = some (.dup2, ((0, 0), ([], []))) := (kT_3 13).trans rfl
theorem r_3_14 : xT.1 3 14 = some (.iaload, ((0, 0), ([], []))) := (kT_3 14).trans rfl
theorem r_3_15 : xT.1 3 15 = some (.iconst 1, ((0, 0), ([.int 1], []))) := (kT_3 15).trans rfl
theorem r_3_16 : xT.1 3 16 = some (.iadd, ((0, 0), ([], []))) := (kT_3 16).trans rfl
theorem r_3_17 : xT.1 3 17 = some (.iastore, ((0, 0), ([], []))) := (kT_3 17).trans rfl
theorem r_3_18 : xT.1 3 18 = some (.iload_n 2, ((0, 0), ([], []))) := (kT_3 18).trans rfl
theorem r_3_19 : xT.1 3 19 = some (.ifCond .eq 13, ((32, 0), ([], []))) := (kT_3 19).trans rfl
theorem r_3_22 : xT.1 3 22 = some (.aload_n 0, ((0, 0), ([], []))) := (kT_3 22).trans rfl
theorem r_3_23 : xT.1 3 23 = some (.getfield 15, ((0, 1), ([], []))) := (kT_3 23).trans rfl
theorem r_3_26 : xT.1 3 26 = some (.iload_n 1, ((0, 0), ([], []))) := (kT_3 26).trans rfl
theorem r_3_27 : xT.1 3 27 = some (.dup2, ((0, 0), ([], []))) := (kT_3 27).trans rfl
theorem r_3_28 : xT.1 3 28 = some (.iaload, ((0, 0), ([], []))) := (kT_3 28).trans rfl
theorem r_3_29 : xT.1 3 29 = some (.iconst 1, ((0, 0), ([.int 1], []))) := (kT_3 29).trans rfl
theorem r_3_30 : xT.1 3 30 = some (.iadd, ((0, 0), ([], []))) := (kT_3 30).trans rfl
theorem r_3_31 : xT.1 3 31 = some (.iastore, ((0, 0), ([], []))) := (kT_3 31).trans rfl
theorem r_3_32 : xT.1 3 32 = some (.return_, ((0, 0), ([], []))) := (kT_3 32).trans rfl
theorem kT_4 (pc : Nat) : xT.1 4 pc = xfind k_4 pc := rfl
theorem r_4_0 : xT.1 4 0 = some (.iload_n 1, ((0, 0), ([], []))) := (kT_4 0).trans rfl
theorem r_4_1 : xT.1 4 1 = some (.invokestatic 30, ((137, 1), ([], [3]))) := (kT_4 1).trans rfl
theorem r_4_4 : xT.1 4 4 = some (.ifCond .eq 12, ((16, 0), ([], []))) := (kT_4 4).trans rfl
theorem r_4_7 : xT.1 4 7 = some (.aload_n 0, ((0, 0), ([], []))) := (kT_4 7).trans rfl
theorem r_4_8 : xT.1 4 8 = some (.getfield 9, ((0, 0), ([], []))) := (kT_4 8).trans rfl
theorem r_4_11 : xT.1 4 11 = some (.iload_n 1, ((0, 0), ([], []))) := (kT_4 11).trans rfl
theorem r_4_12 : xT.1 4 12 = some (.iaload, ((0, 0), ([], []))) := (kT_4 12).trans rfl
theorem r_4_13 : xT.1 4 13 = some (.goto 4, ((17, 0), ([], []))) := (kT_4 13).trans rfl
theorem r_4_16 : xT.1 4 16 = some (.iconst 0, ((0, 0), ([.int 0], []))) := (kT_4 16).trans rfl
theorem r_4_17 : xT.1 4 17 = some (.ireturn, ((0, 0), ([], []))) := (kT_4 17).trans rfl
theorem kT_5 (pc : Nat) : xT.1 5 pc = xfind k_5 pc := rfl
theorem r_5_0 : xT.1 5 0 = some (.iload_n 1, ((0, 0), ([], []))) := (kT_5 0).trans rfl
theorem r_5_1 : xT.1 5 1 = some (.invokestatic 30, ((137, 1), ([], [3]))) := (kT_5 1).trans rfl
theorem r_5_4 : xT.1 5 4 = some (.ifCond .eq 12, ((16, 0), ([], []))) := (kT_5 4).trans rfl
theorem r_5_7 : xT.1 5 7 = some (.aload_n 0, ((0, 0), ([], []))) := (kT_5 7).trans rfl
theorem r_5_8 : xT.1 5 8 = some (.getfield 15, ((0, 1), ([], []))) := (kT_5 8).trans rfl
theorem r_5_11 : xT.1 5 11 = some (.iload_n 1, ((0, 0), ([], []))) := (kT_5 11).trans rfl
theorem r_5_12 : xT.1 5 12 = some (.iaload, ((0, 0), ([], []))) := (kT_5 12).trans rfl
theorem r_5_13 : xT.1 5 13 = some (.goto 4, ((17, 0), ([], []))) := (kT_5 13).trans rfl
theorem r_5_16 : xT.1 5 16 = some (.iconst 0, ((0, 0), ([.int 0], []))) := (kT_5 16).trans rfl
theorem r_5_17 : xT.1 5 17 = some (.ireturn, ((0, 0), ([], []))) := (kT_5 17).trans rfl
theorem kT_6 (pc : Nat) : xT.1 6 pc = xfind k_6 pc := rfl
theorem r_6_0 : xT.1 6 0 = some (.aload_n 0, ((0, 0), ([], []))) := (kT_6 0).trans rfl
theorem r_6_1 : xT.1 6 1 = some (.getfield 9, ((0, 0), ([], []))) := (kT_6 1).trans rfl
theorem r_6_4 : xT.1 6 4 = some (.invokestatic 34, ((9, 1), ([], [1]))) := (kT_6 4).trans rfl
theorem r_6_7 : xT.1 6 7 = some (.ireturn, ((0, 0), ([], []))) := (kT_6 7).trans rfl
theorem kT_7 (pc : Nat) : xT.1 7 pc = xfind k_7 pc := rfl
theorem r_7_0 : xT.1 7 0 = some (.aload_n 0, ((0, 0), ([], []))) := (kT_7 0).trans rfl
theorem r_7_1 : xT.1 7 1 = some (.getfield 15, ((0, 1), ([], []))) := (kT_7 1).trans rfl
theorem r_7_4 : xT.1 7 4 = some (.invokestatic 34, ((9, 1), ([], [1]))) := (kT_7 4).trans rfl
theorem r_7_7 : xT.1 7 7 = some (.ireturn, ((0, 0), ([], []))) := (kT_7 7).trans rfl
theorem kT_8 (pc : Nat) : xT.1 8 pc = xfind k_8 pc := rfl
theorem r_8_0 : xT.1 8 0 = some (.iconst 0, ((0, 0), ([.int 0], []))) := (kT_8 0).trans rfl
theorem r_8_1 : xT.1 8 1 = some (.istore_n 1, ((0, 0), ([], []))) := (kT_8 1).trans rfl
theorem r_8_2 : xT.1 8 2 = some (.iconst 1, ((0, 0), ([.int 1], []))) := (kT_8 2).trans rfl
theorem r_8_3 : xT.1 8 3 = some (.istore_n 2, ((0, 0), ([], []))) := (kT_8 3).trans rfl
theorem r_8_4 : xT.1 8 4 = some (.iload_n 2, ((0, 0), ([], []))) := (kT_8 4).trans rfl
theorem r_8_5 : xT.1 8 5 = some (.bipush 9, ((0, 0), ([.int 9], []))) := (kT_8 5).trans rfl
theorem r_8_7 : xT.1 8 7 = some (.if_icmp .gt 33, ((40, 0), ([], []))) := (kT_8 7).trans rfl
theorem r_8_10 : xT.1 8 10 = some (.iload_n 1, ((0, 0), ([], []))) := (kT_8 10).trans rfl
theorem r_8_11 : xT.1 8 11 = some (.bipush 10, ((0, 0), ([.int 10], []))) := (kT_8 11).trans rfl
theorem r_8_13 : xT.1 8 13 = some (.aload_n 0, ((0, 0), ([], []))) := (kT_8 13).trans rfl
theorem r_8_14 : xT.1 8 14 = some (.getfield 15, ((0, 1), ([], []))) := (kT_8 14).trans rfl
theorem r_8_17 : xT.1 8 17 = some (.iload_n 2, ((0, 0), ([], []))) := (kT_8 17).trans rfl
theorem r_8_18 : xT.1 8 18 = some (.iaload, ((0, 0), ([], []))) := (kT_8 18).trans rfl
theorem r_8_19 : xT.1 8 19 = some (.imul, ((0, 0), ([], []))) := (kT_8 19).trans rfl
theorem r_8_20 : xT.1 8 20 = some (.iload_n 2, ((0, 0), ([], []))) := (kT_8 20).trans rfl
theorem r_8_21 : xT.1 8 21 = some (.aload_n 0, ((0, 0), ([], []))) := (kT_8 21).trans rfl
theorem r_8_22 : xT.1 8 22 = some (.getfield 9, ((0, 0), ([], []))) := (kT_8 22).trans rfl
theorem r_8_25 : xT.1 8 25 = some (.iload_n 2, ((0, 0), ([], []))) := (kT_8 25).trans rfl
theorem r_8_26 : xT.1 8 26 = some (.iaload, ((0, 0), ([], []))) := (kT_8 26).trans rfl
theorem r_8_27 : xT.1 8 27 = some (.imul, ((0, 0), ([], []))) := (kT_8 27).trans rfl
theorem r_8_28 : xT.1 8 28 = some (.isub, ((0, 0), ([], []))) := (kT_8 28).trans rfl
theorem r_8_29 : xT.1 8 29 = some (.invokestatic 38, ((22, 1), ([], [4]))) := (kT_8 29).trans rfl
theorem r_8_32 : xT.1 8 32 = some (.iadd, ((0, 0), ([], []))) := (kT_8 32).trans rfl
theorem r_8_33 : xT.1 8 33 = some (.istore_n 1, ((0, 0), ([], []))) := (kT_8 33).trans rfl
theorem r_8_34 : xT.1 8 34 = some (.iinc 2 1, ((0, 0), ([.int (1)], []))) := (kT_8 34).trans rfl
theorem r_8_37 : xT.1 8 37 = some (.goto (-33), ((4, 0), ([], []))) := (kT_8 37).trans rfl
theorem r_8_40 : xT.1 8 40 = some (.iload_n 1, ((0, 0), ([], []))) := (kT_8 40).trans rfl
theorem r_8_41 : xT.1 8 41 = some (.ireturn, ((0, 0), ([], []))) := (kT_8 41).trans rfl
theorem kT_9 (pc : Nat) : xT.1 9 pc = xfind k_9 pc := rfl
theorem r_9_0 : xT.1 9 0 = some (.iconst 0, ((0, 0), ([.int 0], []))) := (kT_9 0).trans rfl
theorem r_9_1 : xT.1 9 1 = some (.istore_n 1, ((0, 0), ([], []))) := (kT_9 1).trans rfl
theorem r_9_2 : xT.1 9 2 = some (.aload_n 0, ((0, 0), ([], []))) := (kT_9 2).trans rfl
theorem r_9_3 : xT.1 9 3 = some (.astore_n 2, ((0, 0), ([], []))) := (kT_9 3).trans rfl
theorem r_9_4 : xT.1 9 4 = some (.aload_n 2, ((0, 0), ([], []))) := (kT_9 4).trans rfl
theorem r_9_5 : xT.1 9 5 = some (.arraylength, ((0, 0), ([], []))) := (kT_9 5).trans rfl
theorem r_9_6 : xT.1 9 6 = some (.istore_n 3, ((0, 0), ([], []))) := (kT_9 6).trans rfl
theorem r_9_7 : xT.1 9 7 = some (.iconst 0, ((0, 0), ([.int 0], []))) := (kT_9 7).trans rfl
theorem r_9_8 : xT.1 9 8 = some (.istore 4, ((0, 0), ([], []))) := (kT_9 8).trans rfl
theorem r_9_10 : xT.1 9 10 = some (.iload 4, ((0, 0), ([], []))) := (kT_9 10).trans rfl
theorem r_9_12 : xT.1 9 12 = some (.iload_n 3, ((0, 0), ([], []))) := (kT_9 12).trans rfl
theorem r_9_13 : xT.1 9 13 = some (.if_icmp .ge 20, ((33, 0), ([], []))) := (kT_9 13).trans rfl
theorem r_9_16 : xT.1 9 16 = some (.aload_n 2, ((0, 0), ([], []))) := (kT_9 16).trans rfl
theorem r_9_17 : xT.1 9 17 = some (.iload 4, ((0, 0), ([], []))) := (kT_9 17).trans rfl
theorem r_9_19 : xT.1 9 19 = some (.iaload, ((0, 0), ([], []))) := (kT_9 19).trans rfl
theorem r_9_20 : xT.1 9 20 = some (.istore 5, ((0, 0), ([], []))) := (kT_9 20).trans rfl
theorem r_9_22 : xT.1 9 22 = some (.iload_n 1, ((0, 0), ([], []))) := (kT_9 22).trans rfl
theorem r_9_23 : xT.1 9 23 = some (.iload 5, ((0, 0), ([], []))) := (kT_9 23).trans rfl
theorem r_9_25 : xT.1 9 25 = some (.iadd, ((0, 0), ([], []))) := (kT_9 25).trans rfl
theorem r_9_26 : xT.1 9 26 = some (.istore_n 1, ((0, 0), ([], []))) := (kT_9 26).trans rfl
theorem r_9_27 : xT.1 9 27 = some (.iinc 4 1, ((0, 0), ([.int (1)], []))) := (kT_9 27).trans rfl
theorem r_9_30 : xT.1 9 30 = some (.goto (-20), ((10, 0), ([], []))) := (kT_9 30).trans rfl
theorem r_9_33 : xT.1 9 33 = some (.iload_n 1, ((0, 0), ([], []))) := (kT_9 33).trans rfl
theorem r_9_34 : xT.1 9 34 = some (.ireturn, ((0, 0), ([], []))) := (kT_9 34).trans rfl
theorem kT_10 (pc : Nat) : xT.1 10 pc = xfind k_10 pc := rfl
theorem r_10_0 : xT.1 10 0 = some (.aload_n 0, ((0, 0), ([], []))) := (kT_10 0).trans rfl
theorem r_10_1 : xT.1 10 1 = some (.invokespecial 3, ((0, 1), ([], [5]))) := (kT_10 1).trans rfl
theorem r_10_4 : xT.1 10 4 = some (.aload_n 0, ((0, 0), ([], []))) := (kT_10 4).trans rfl
theorem r_10_5 : xT.1 10 5 = some (.iconst 5, ((0, 0), ([.int 5], []))) := (kT_10 5).trans rfl
theorem r_10_6 : xT.1 10 6 = some (.anewarray 9, ((6, 0), ([], []))) := (kT_10 6).trans rfl
theorem r_10_9 : xT.1 10 9 = some (.putfield 11, ((1, 0), ([], [2]))) := (kT_10 9).trans rfl
theorem r_10_12 : xT.1 10 12 = some (.aload_n 0, ((0, 0), ([], []))) := (kT_10 12).trans rfl
theorem r_10_13 : xT.1 10 13 = some (.bipush 6, ((0, 0), ([.int 6], []))) := (kT_10 13).trans rfl
theorem r_10_15 : xT.1 10 15 = some (.anewarray 17, ((7, 0), ([], []))) := (kT_10 15).trans rfl
theorem r_10_18 : xT.1 10 18 = some (.putfield 19, ((1, 1), ([], [2]))) := (kT_10 18).trans rfl
theorem r_10_21 : xT.1 10 21 = some (.aload_n 0, ((0, 0), ([], []))) := (kT_10 21).trans rfl
theorem r_10_22 : xT.1 10 22 = some (.new 23, ((0, 2), ([.null, .null], []))) := (kT_10 22).trans rfl
theorem r_10_25 : xT.1 10 25 = some (.dup, ((0, 0), ([], []))) := (kT_10 25).trans rfl
theorem r_10_26 : xT.1 10 26 = some (.invokespecial 25, ((0, 1), ([], [2]))) := (kT_10 26).trans rfl
theorem r_10_29 : xT.1 10 29 = some (.putfield 26, ((1, 2), ([], [2]))) := (kT_10 29).trans rfl
theorem r_10_32 : xT.1 10 32 = some (.aload_n 0, ((0, 0), ([], []))) := (kT_10 32).trans rfl
theorem r_10_33 : xT.1 10 33 = some (.iconst 5, ((0, 0), ([.int 5], []))) := (kT_10 33).trans rfl
theorem r_10_34 : xT.1 10 34 = some (.newarray .int, ((0, 0), ([], []))) := (kT_10 34).trans rfl
theorem r_10_36 : xT.1 10 36 = some (.putfield 30, ((1, 3), ([], [2]))) := (kT_10 36).trans rfl
theorem r_10_39 : xT.1 10 39 = some (.iconst 0, ((0, 0), ([.int 0], []))) := (kT_10 39).trans rfl
theorem r_10_40 : xT.1 10 40 = some (.istore_n 1, ((0, 0), ([], []))) := (kT_10 40).trans rfl
theorem r_10_41 : xT.1 10 41 = some (.iload_n 1, ((0, 0), ([], []))) := (kT_10 41).trans rfl
theorem r_10_42 : xT.1 10 42 = some (.iconst 5, ((0, 0), ([.int 5], []))) := (kT_10 42).trans rfl
theorem r_10_43 : xT.1 10 43 = some (.if_icmp .ge 22, ((65, 0), ([], []))) := (kT_10 43).trans rfl
theorem r_10_46 : xT.1 10 46 = some (.aload_n 0, ((0, 0), ([], []))) := (kT_10 46).trans rfl
theorem r_10_47 : xT.1 10 47 = some (.getfield 11, ((1, 0), ([], []))) := (kT_10 47).trans rfl
theorem r_10_50 : xT.1 10 50 = some (.iload_n 1, ((0, 0), ([], []))) := (kT_10 50).trans rfl
theorem r_10_51 : xT.1 10 51 = some (.new 9, ((6, 4), ([.null, .int 0, .int 0, .int 0], []))) := (kT_10 51).trans rfl
theorem r_10_54 : xT.1 10 54 = some (.dup, ((0, 0), ([], []))) := (kT_10 54).trans rfl
theorem r_10_55 : xT.1 10 55 = some (.invokespecial 34, ((71, 1), ([], [2]))) := (kT_10 55).trans rfl
theorem r_10_58 : xT.1 10 58 = some (.aastore, ((0, 0), ([], []))) := (kT_10 58).trans rfl
theorem r_10_59 : xT.1 10 59 = some (.iinc 1 1, ((0, 0), ([.int (1)], []))) := (kT_10 59).trans rfl
theorem r_10_62 : xT.1 10 62 = some (.goto (-21), ((41, 0), ([], []))) := (kT_10 62).trans rfl
theorem r_10_65 : xT.1 10 65 = some (.iconst 0, ((0, 0), ([.int 0], []))) := (kT_10 65).trans rfl
theorem r_10_66 : xT.1 10 66 = some (.istore_n 1, ((0, 0), ([], []))) := (kT_10 66).trans rfl
theorem r_10_67 : xT.1 10 67 = some (.iload_n 1, ((0, 0), ([], []))) := (kT_10 67).trans rfl
theorem r_10_68 : xT.1 10 68 = some (.bipush 6, ((0, 0), ([.int 6], []))) := (kT_10 68).trans rfl
theorem r_10_70 : xT.1 10 70 = some (.if_icmp .ge 22, ((92, 0), ([], []))) := (kT_10 70).trans rfl
theorem r_10_73 : xT.1 10 73 = some (.aload_n 0, ((0, 0), ([], []))) := (kT_10 73).trans rfl
theorem r_10_74 : xT.1 10 74 = some (.getfield 19, ((1, 1), ([], []))) := (kT_10 74).trans rfl
theorem r_10_77 : xT.1 10 77 = some (.iload_n 1, ((0, 0), ([], []))) := (kT_10 77).trans rfl
theorem r_10_78 : xT.1 10 78 = some (.new 17, ((7, 4), ([.null, .int 0, .int 0, .int 0], []))) := (kT_10 78).trans rfl
theorem r_10_81 : xT.1 10 81 = some (.dup, ((0, 0), ([], []))) := (kT_10 81).trans rfl
theorem r_10_82 : xT.1 10 82 = some (.invokespecial 35, ((75, 1), ([], [2]))) := (kT_10 82).trans rfl
theorem r_10_85 : xT.1 10 85 = some (.aastore, ((0, 0), ([], []))) := (kT_10 85).trans rfl
theorem r_10_86 : xT.1 10 86 = some (.iinc 1 1, ((0, 0), ([.int (1)], []))) := (kT_10 86).trans rfl
theorem r_10_89 : xT.1 10 89 = some (.goto (-22), ((67, 0), ([], []))) := (kT_10 89).trans rfl
theorem r_10_92 : xT.1 10 92 = some (.return_, ((0, 0), ([], []))) := (kT_10 92).trans rfl
theorem kT_11 (pc : Nat) : xT.1 11 pc = xfind k_11 pc := rfl
theorem r_11_0 : xT.1 11 0 = some (.aload_n 0, ((0, 0), ([], []))) := (kT_11 0).trans rfl
theorem r_11_1 : xT.1 11 1 = some (.aload_n 1, ((0, 0), ([], []))) := (kT_11 1).trans rfl
theorem r_11_2 : xT.1 11 2 = some (.getfield 36, ((1, 4), ([], []))) := (kT_11 2).trans rfl
theorem r_11_5 : xT.1 11 5 = some (.putfield 36, ((1, 4), ([], [0]))) := (kT_11 5).trans rfl
theorem r_11_8 : xT.1 11 8 = some (.aload_n 0, ((0, 0), ([], []))) := (kT_11 8).trans rfl
theorem r_11_9 : xT.1 11 9 = some (.aload_n 1, ((0, 0), ([], []))) := (kT_11 9).trans rfl
theorem r_11_10 : xT.1 11 10 = some (.getfield 40, ((1, 5), ([], []))) := (kT_11 10).trans rfl
theorem r_11_13 : xT.1 11 13 = some (.putfield 40, ((1, 5), ([], [0]))) := (kT_11 13).trans rfl
theorem r_11_16 : xT.1 11 16 = some (.aload_n 0, ((0, 0), ([], []))) := (kT_11 16).trans rfl
theorem r_11_17 : xT.1 11 17 = some (.aload_n 1, ((0, 0), ([], []))) := (kT_11 17).trans rfl
theorem r_11_18 : xT.1 11 18 = some (.getfield 43, ((1, 6), ([], []))) := (kT_11 18).trans rfl
theorem r_11_21 : xT.1 11 21 = some (.putfield 43, ((1, 6), ([], [0]))) := (kT_11 21).trans rfl
theorem r_11_24 : xT.1 11 24 = some (.aload_n 0, ((0, 0), ([], []))) := (kT_11 24).trans rfl
theorem r_11_25 : xT.1 11 25 = some (.aload_n 1, ((0, 0), ([], []))) := (kT_11 25).trans rfl
theorem r_11_26 : xT.1 11 26 = some (.getfield 46, ((1, 7), ([], []))) := (kT_11 26).trans rfl
theorem r_11_29 : xT.1 11 29 = some (.putfield 46, ((1, 7), ([], [0]))) := (kT_11 29).trans rfl
theorem r_11_32 : xT.1 11 32 = some (.aload_n 0, ((0, 0), ([], []))) := (kT_11 32).trans rfl
theorem r_11_33 : xT.1 11 33 = some (.aload_n 1, ((0, 0), ([], []))) := (kT_11 33).trans rfl
theorem r_11_34 : xT.1 11 34 = some (.getfield 49, ((1, 8), ([], []))) := (kT_11 34).trans rfl
theorem r_11_37 : xT.1 11 37 = some (.putfield 49, ((1, 8), ([], [0]))) := (kT_11 37).trans rfl
theorem r_11_40 : xT.1 11 40 = some (.aload_n 0, ((0, 0), ([], []))) := (kT_11 40).trans rfl
theorem r_11_41 : xT.1 11 41 = some (.getfield 26, ((1, 2), ([], []))) := (kT_11 41).trans rfl
theorem r_11_44 : xT.1 11 44 = some (.aload_n 1, ((0, 0), ([], []))) := (kT_11 44).trans rfl
theorem r_11_45 : xT.1 11 45 = some (.getfield 26, ((1, 2), ([], []))) := (kT_11 45).trans rfl
theorem r_11_48 : xT.1 11 48 = some (.invokevirtual 52, ((2, 2), ([], [0]))) := (kT_11 48).trans rfl
theorem r_11_51 : xT.1 11 51 = some (.aload_n 1, ((0, 0), ([], []))) := (kT_11 51).trans rfl
theorem r_11_52 : xT.1 11 52 = some (.getfield 30, ((1, 3), ([], []))) := (kT_11 52).trans rfl
theorem r_11_55 : xT.1 11 55 = some (.iconst 0, ((0, 0), ([.int 0], []))) := (kT_11 55).trans rfl
theorem r_11_56 : xT.1 11 56 = some (.aload_n 0, ((0, 0), ([], []))) := (kT_11 56).trans rfl
theorem r_11_57 : xT.1 11 57 = some (.getfield 30, ((1, 3), ([], []))) := (kT_11 57).trans rfl
theorem r_11_60 : xT.1 11 60 = some (.iconst 0, ((0, 0), ([.int 0], []))) := (kT_11 60).trans rfl
theorem r_11_61 : xT.1 11 61 = some (.aload_n 0, ((0, 0), ([], []))) := (kT_11 61).trans rfl
theorem r_11_62 : xT.1 11 62 = some (.getfield 30, ((1, 3), ([], []))) := (kT_11 62).trans rfl
theorem r_11_65 : xT.1 11 65 = some (.arraylength, ((0, 0), ([], []))) := (kT_11 65).trans rfl
theorem r_11_66 : xT.1 11 66 = some (.invokestatic 56, ((0, 5), ([], [4]))) := (kT_11 66).trans rfl
theorem r_11_69 : xT.1 11 69 = some (.iconst 0, ((0, 0), ([.int 0], []))) := (kT_11 69).trans rfl
theorem r_11_70 : xT.1 11 70 = some (.istore_n 2, ((0, 0), ([], []))) := (kT_11 70).trans rfl
theorem r_11_71 : xT.1 11 71 = some (.iload_n 2, ((0, 0), ([], []))) := (kT_11 71).trans rfl
theorem r_11_72 : xT.1 11 72 = some (.aload_n 0, ((0, 0), ([], []))) := (kT_11 72).trans rfl
theorem r_11_73 : xT.1 11 73 = some (.getfield 36, ((1, 4), ([], []))) := (kT_11 73).trans rfl
theorem r_11_76 : xT.1 11 76 = some (.if_icmp .ge 24, ((100, 0), ([], []))) := (kT_11 76).trans rfl
theorem r_11_79 : xT.1 11 79 = some (.aload_n 0, ((0, 0), ([], []))) := (kT_11 79).trans rfl
theorem r_11_80 : xT.1 11 80 = some (.getfield 11, ((1, 0), ([], []))) := (kT_11 80).trans rfl
theorem r_11_83 : xT.1 11 83 = some (.iload_n 2, ((0, 0), ([], []))) := (kT_11 83).trans rfl
theorem r_11_84 : xT.1 11 84 = some (.aaload, ((0, 0), ([], []))) := (kT_11 84).trans rfl
theorem r_11_85 : xT.1 11 85 = some (.aload_n 1, ((0, 0), ([], []))) := (kT_11 85).trans rfl
theorem r_11_86 : xT.1 11 86 = some (.getfield 11, ((1, 0), ([], []))) := (kT_11 86).trans rfl
theorem r_11_89 : xT.1 11 89 = some (.iload_n 2, ((0, 0), ([], []))) := (kT_11 89).trans rfl
theorem r_11_90 : xT.1 11 90 = some (.aaload, ((0, 0), ([], []))) := (kT_11 90).trans rfl
theorem r_11_91 : xT.1 11 91 = some (.invokevirtual 62, ((73, 2), ([], [0]))) := (kT_11 91).trans rfl
theorem r_11_94 : xT.1 11 94 = some (.iinc 2 1, ((0, 0), ([.int (1)], []))) := (kT_11 94).trans rfl
theorem r_11_97 : xT.1 11 97 = some (.goto (-26), ((71, 0), ([], []))) := (kT_11 97).trans rfl
theorem r_11_100 : xT.1 11 100 = some (.iconst 0, ((0, 0), ([.int 0], []))) := (kT_11 100).trans rfl
theorem r_11_101 : xT.1 11 101 = some (.istore_n 2, ((0, 0), ([], []))) := (kT_11 101).trans rfl
theorem r_11_102 : xT.1 11 102 = some (.iload_n 2, ((0, 0), ([], []))) := (kT_11 102).trans rfl
theorem r_11_103 : xT.1 11 103 = some (.aload_n 0, ((0, 0), ([], []))) := (kT_11 103).trans rfl
theorem r_11_104 : xT.1 11 104 = some (.getfield 40, ((1, 5), ([], []))) := (kT_11 104).trans rfl
theorem r_11_107 : xT.1 11 107 = some (.if_icmp .ge 24, ((131, 0), ([], []))) := (kT_11 107).trans rfl
theorem r_11_110 : xT.1 11 110 = some (.aload_n 0, ((0, 0), ([], []))) := (kT_11 110).trans rfl
theorem r_11_111 : xT.1 11 111 = some (.getfield 19, ((1, 1), ([], []))) := (kT_11 111).trans rfl
theorem r_11_114 : xT.1 11 114 = some (.iload_n 2, ((0, 0), ([], []))) := (kT_11 114).trans rfl
theorem r_11_115 : xT.1 11 115 = some (.aaload, ((0, 0), ([], []))) := (kT_11 115).trans rfl
theorem r_11_116 : xT.1 11 116 = some (.aload_n 1, ((0, 0), ([], []))) := (kT_11 116).trans rfl
theorem r_11_117 : xT.1 11 117 = some (.getfield 19, ((1, 1), ([], []))) := (kT_11 117).trans rfl
theorem r_11_120 : xT.1 11 120 = some (.iload_n 2, ((0, 0), ([], []))) := (kT_11 120).trans rfl
theorem r_11_121 : xT.1 11 121 = some (.aaload, ((0, 0), ([], []))) := (kT_11 121).trans rfl
theorem r_11_122 : xT.1 11 122 = some (.invokevirtual 65, ((77, 2), ([], [0]))) := (kT_11 122).trans rfl
theorem r_11_125 : xT.1 11 125 = some (.iinc 2 1, ((0, 0), ([.int (1)], []))) := (kT_11 125).trans rfl
theorem r_11_128 : xT.1 11 128 = some (.goto (-26), ((102, 0), ([], []))) := (kT_11 128).trans rfl
theorem r_11_131 : xT.1 11 131 = some (.return_, ((0, 0), ([], []))) := (kT_11 131).trans rfl
theorem kT_12 (pc : Nat) : xT.1 12 pc = xfind k_12 pc := rfl
theorem r_12_0 : xT.1 12 0 = some (.iload_n 1, ((0, 0), ([], []))) := (kT_12 0).trans rfl
theorem r_12_1 : xT.1 12 1 = some (.ifCond .lt 15, ((16, 0), ([], []))) := (kT_12 1).trans rfl
theorem r_12_4 : xT.1 12 4 = some (.iload_n 1, ((0, 0), ([], []))) := (kT_12 4).trans rfl
theorem r_12_5 : xT.1 12 5 = some (.aload_n 0, ((0, 0), ([], []))) := (kT_12 5).trans rfl
theorem r_12_6 : xT.1 12 6 = some (.getfield 36, ((1, 4), ([], []))) := (kT_12 6).trans rfl
theorem r_12_9 : xT.1 12 9 = some (.if_icmp .ge 7, ((16, 0), ([], []))) := (kT_12 9).trans rfl
theorem r_12_12 : xT.1 12 12 = some (.iconst 1, ((0, 0), ([.int 1], []))) := (kT_12 12).trans rfl
theorem r_12_13 : xT.1 12 13 = some (.goto 4, ((17, 0), ([], []))) := (kT_12 13).trans rfl
theorem r_12_16 : xT.1 12 16 = some (.iconst 0, ((0, 0), ([.int 0], []))) := (kT_12 16).trans rfl
theorem r_12_17 : xT.1 12 17 = some (.ireturn, ((0, 0), ([], []))) := (kT_12 17).trans rfl
theorem kT_13 (pc : Nat) : xT.1 13 pc = xfind k_13 pc := rfl
theorem r_13_0 : xT.1 13 0 = some (.iconst 0, ((0, 0), ([.int 0], []))) := (kT_13 0).trans rfl
theorem r_13_1 : xT.1 13 1 = some (.istore_n 2, ((0, 0), ([], []))) := (kT_13 1).trans rfl
theorem r_13_2 : xT.1 13 2 = some (.iload_n 2, ((0, 0), ([], []))) := (kT_13 2).trans rfl
theorem r_13_3 : xT.1 13 3 = some (.aload_n 0, ((0, 0), ([], []))) := (kT_13 3).trans rfl
theorem r_13_4 : xT.1 13 4 = some (.getfield 40, ((1, 5), ([], []))) := (kT_13 4).trans rfl
theorem r_13_7 : xT.1 13 7 = some (.if_icmp .ge 24, ((31, 0), ([], []))) := (kT_13 7).trans rfl
theorem r_13_10 : xT.1 13 10 = some (.aload_n 0, ((0, 0), ([], []))) := (kT_13 10).trans rfl
theorem r_13_11 : xT.1 13 11 = some (.getfield 19, ((1, 1), ([], []))) := (kT_13 11).trans rfl
theorem r_13_14 : xT.1 13 14 = some (.iload_n 2, ((0, 0), ([], []))) := (kT_13 14).trans rfl
theorem r_13_15 : xT.1 13 15 = some (.aaload, ((0, 0), ([], []))) := (kT_13 15).trans rfl
theorem r_13_16 : xT.1 13 16 = some (.getfield 68, ((7, 1), ([], []))) := (kT_13 16).trans rfl
theorem r_13_19 : xT.1 13 19 = some (.iload_n 1, ((0, 0), ([], []))) := (kT_13 19).trans rfl
theorem r_13_20 : xT.1 13 20 = some (.if_icmp .ne 5, ((25, 0), ([], []))) := (kT_13 20).trans rfl
theorem r_13_23 : xT.1 13 23 = some (.iload_n 2, ((0, 0), ([], []))) := (kT_13 23).trans rfl
theorem r_13_24 : xT.1 13 24 = some (.ireturn, ((0, 0), ([], []))) := (kT_13 24).trans rfl
theorem r_13_25 : xT.1 13 25 = some (.iinc 2 1, ((0, 0), ([.int (1)], []))) := (kT_13 25).trans rfl
theorem r_13_28 : xT.1 13 28 = some (.goto (-26), ((2, 0), ([], []))) := (kT_13 28).trans rfl
theorem r_13_31 : xT.1 13 31 = some (.iconst (-1), ((0, 0), ([.int (-1)], []))) := (kT_13 31).trans rfl
theorem r_13_32 : xT.1 13 32 = some (.ireturn, ((0, 0), ([], []))) := (kT_13 32).trans rfl
theorem kT_14 (pc : Nat) : xT.1 14 pc = xfind k_14 pc := rfl
theorem r_14_0 : xT.1 14 0 = some (.aload_n 0, ((0, 0), ([], []))) := (kT_14 0).trans rfl
theorem r_14_1 : xT.1 14 1 = some (.getfield 36, ((1, 4), ([], []))) := (kT_14 1).trans rfl
theorem r_14_4 : xT.1 14 4 = some (.iconst 5, ((0, 0), ([.int 5], []))) := (kT_14 4).trans rfl
theorem r_14_5 : xT.1 14 5 = some (.if_icmp .ge 9, ((14, 0), ([], []))) := (kT_14 5).trans rfl
theorem r_14_8 : xT.1 14 8 = some (.getstatic 71, ((0, 0), ([.ref 0], []))) := (kT_14 8).trans rfl
theorem r_14_11 : xT.1 14 11 = some (.goto 6, ((17, 0), ([], []))) := (kT_14 11).trans rfl
theorem r_14_14 : xT.1 14 14 = some (.getstatic 77, ((0, 0), ([.ref 5], []))) := (kT_14 14).trans rfl
theorem r_14_17 : xT.1 14 17 = some (.areturn, ((0, 0), ([], []))) := (kT_14 17).trans rfl
theorem kT_15 (pc : Nat) : xT.1 15 pc = xfind k_15 pc := rfl
theorem r_15_0 : xT.1 15 0 = some (.aload_n 0, ((0, 0), ([], []))) := (kT_15 0).trans rfl
theorem r_15_1 : xT.1 15 1 = some (.getfield 11, ((1, 0), ([], []))) := (kT_15 1).trans rfl
theorem r_15_4 : xT.1 15 4 = some (.aload_n 0, ((0, 0), ([], []))) := (kT_15 4).trans rfl
theorem r_15_5 : xT.1 15 5 = some (.getfield 36, ((1, 4), ([], []))) := (kT_15 5).trans rfl
theorem r_15_8 : xT.1 15 8 = some (.aaload, ((0, 0), ([], []))) := (kT_15 8).trans rfl
theorem r_15_9 : xT.1 15 9 = some (.invokevirtual 80, ((72, 1), ([], [0]))) := (kT_15 9).trans rfl
theorem r_15_12 : xT.1 15 12 = some (.aload_n 0, ((0, 0), ([], []))) := (kT_15 12).trans rfl
theorem r_15_13 : xT.1 15 13 = some (.dup, ((0, 0), ([], []))) := (kT_15 13).trans rfl
theorem r_15_14 : xT.1 15 14 = some (.getfield 36, ((1, 4), ([], []))) := (kT_15 14).trans rfl
theorem r_15_17 : xT.1 15 17 = some (.iconst 1, ((0, 0), ([.int 1], []))) := (kT_15 17).trans rfl
theorem r_15_18 : xT.1 15 18 = some (.iadd, ((0, 0), ([], []))) := (kT_15 18).trans rfl
theorem r_15_19 : xT.1 15 19 = some (.putfield 36, ((1, 4), ([], [0]))) := (kT_15 19).trans rfl
theorem r_15_22 : xT.1 15 22 = some (.aload_n 0, ((0, 0), ([], []))) := (kT_15 22).trans rfl
theorem r_15_23 : xT.1 15 23 = some (.getfield 36, ((1, 4), ([], []))) := (kT_15 23).trans rfl
theorem r_15_26 : xT.1 15 26 = some (.iconst 1, ((0, 0), ([.int 1], []))) := (kT_15 26).trans rfl
theorem r_15_27 : xT.1 15 27 = some (.isub, ((0, 0), ([], []))) := (kT_15 27).trans rfl
theorem r_15_28 : xT.1 15 28 = some (.ireturn, ((0, 0), ([], []))) := (kT_15 28).trans rfl
theorem kT_16 (pc : Nat) : xT.1 16 pc = xfind k_16 pc := rfl
theorem r_16_0 : xT.1 16 0 = some (.iload_n 1, ((0, 0), ([], []))) := (kT_16 0).trans rfl
theorem r_16_1 : xT.1 16 1 = some (.iconst 1, ((0, 0), ([.int 1], []))) := (kT_16 1).trans rfl
theorem r_16_2 : xT.1 16 2 = some (.if_icmp .lt 8, ((10, 0), ([], []))) := (kT_16 2).trans rfl
theorem r_16_5 : xT.1 16 5 = some (.iload_n 1, ((0, 0), ([], []))) := (kT_16 5).trans rfl
theorem r_16_6 : xT.1 16 6 = some (.iconst 3, ((0, 0), ([.int 3], []))) := (kT_16 6).trans rfl
theorem r_16_7 : xT.1 16 7 = some (.if_icmp .le 7, ((14, 0), ([], []))) := (kT_16 7).trans rfl
theorem r_16_10 : xT.1 16 10 = some (.getstatic 83, ((0, 0), ([.ref 3], []))) := (kT_16 10).trans rfl
theorem r_16_13 : xT.1 16 13 = some (.areturn, ((0, 0), ([], []))) := (kT_16 13).trans rfl
theorem r_16_14 : xT.1 16 14 = some (.aload_n 0, ((0, 0), ([], []))) := (kT_16 14).trans rfl
theorem r_16_15 : xT.1 16 15 = some (.getfield 40, ((1, 5), ([], []))) := (kT_16 15).trans rfl
theorem r_16_18 : xT.1 16 18 = some (.bipush 6, ((0, 0), ([.int 6], []))) := (kT_16 18).trans rfl
theorem r_16_20 : xT.1 16 20 = some (.if_icmp .ge 9, ((29, 0), ([], []))) := (kT_16 20).trans rfl
theorem r_16_23 : xT.1 16 23 = some (.getstatic 71, ((0, 0), ([.ref 0], []))) := (kT_16 23).trans rfl
theorem r_16_26 : xT.1 16 26 = some (.goto 6, ((32, 0), ([], []))) := (kT_16 26).trans rfl
theorem r_16_29 : xT.1 16 29 = some (.getstatic 77, ((0, 0), ([.ref 5], []))) := (kT_16 29).trans rfl
theorem r_16_32 : xT.1 16 32 = some (.areturn, ((0, 0), ([], []))) := (kT_16 32).trans rfl
theorem kT_17 (pc : Nat) : xT.1 17 pc = xfind k_17 pc := rfl
theorem r_17_0 : xT.1 17 0 = some (.aload_n 0, ((0, 0), ([], []))) := (kT_17 0).trans rfl
theorem r_17_1 : xT.1 17 1 = some (.getfield 19, ((1, 1), ([], []))) := (kT_17 1).trans rfl
theorem r_17_4 : xT.1 17 4 = some (.aload_n 0, ((0, 0), ([], []))) := (kT_17 4).trans rfl
theorem r_17_5 : xT.1 17 5 = some (.getfield 40, ((1, 5), ([], []))) := (kT_17 5).trans rfl
theorem r_17_8 : xT.1 17 8 = some (.aaload, ((0, 0), ([], []))) := (kT_17 8).trans rfl
theorem r_17_9 : xT.1 17 9 = some (.aload_n 0, ((0, 0), ([], []))) := (kT_17 9).trans rfl
theorem r_17_10 : xT.1 17 10 = some (.getfield 43, ((1, 6), ([], []))) := (kT_17 10).trans rfl
theorem r_17_13 : xT.1 17 13 = some (.iload_n 1, ((0, 0), ([], []))) := (kT_17 13).trans rfl
theorem r_17_14 : xT.1 17 14 = some (.invokevirtual 86, ((76, 3), ([], [0]))) := (kT_17 14).trans rfl
theorem r_17_17 : xT.1 17 17 = some (.aload_n 0, ((0, 0), ([], []))) := (kT_17 17).trans rfl
theorem r_17_18 : xT.1 17 18 = some (.dup, ((0, 0), ([], []))) := (kT_17 18).trans rfl
theorem r_17_19 : xT.1 17 19 = some (.getfield 40, ((1, 5), ([], []))) := (kT_17 19).trans rfl
theorem r_17_22 : xT.1 17 22 = some (.iconst 1, ((0, 0), ([.int 1], []))) := (kT_17 22).trans rfl
theorem r_17_23 : xT.1 17 23 = some (.iadd, ((0, 0), ([], []))) := (kT_17 23).trans rfl
theorem r_17_24 : xT.1 17 24 = some (.putfield 40, ((1, 5), ([], [0]))) := (kT_17 24).trans rfl
theorem r_17_27 : xT.1 17 27 = some (.aload_n 0, ((0, 0), ([], []))) := (kT_17 27).trans rfl
theorem r_17_28 : xT.1 17 28 = some (.dup, ((0, 0), ([], []))) := (kT_17 28).trans rfl
theorem r_17_29 : xT.1 17 29 = some (.getfield 43, ((1, 6), ([], []))) := (kT_17 29).trans rfl
theorem r_17_32 : xT.1 17 32 = some (.iconst 1, ((0, 0), ([.int 1], []))) := (kT_17 32).trans rfl
theorem r_17_33 : xT.1 17 33 = some (.iadd, ((0, 0), ([], []))) := (kT_17 33).trans rfl
theorem r_17_34 : xT.1 17 34 = some (.putfield 43, ((1, 6), ([], [0]))) := (kT_17 34).trans rfl
theorem r_17_37 : xT.1 17 37 = some (.aload_n 0, ((0, 0), ([], []))) := (kT_17 37).trans rfl
theorem r_17_38 : xT.1 17 38 = some (.getfield 43, ((1, 6), ([], []))) := (kT_17 38).trans rfl
theorem r_17_41 : xT.1 17 41 = some (.iconst 1, ((0, 0), ([.int 1], []))) := (kT_17 41).trans rfl
theorem r_17_42 : xT.1 17 42 = some (.isub, ((0, 0), ([], []))) := (kT_17 42).trans rfl
theorem r_17_43 : xT.1 17 43 = some (.ireturn, ((0, 0), ([], []))) := (kT_17 43).trans rfl
theorem kT_18 (pc : Nat) : xT.1 18 pc = xfind k_18 pc := rfl
theorem r_18_0 : xT.1 18 0 = some (.aload_n 0, ((0, 0), ([], []))) := (kT_18 0).trans rfl
theorem r_18_1 : xT.1 18 1 = some (.iload_n 1, ((0, 0), ([], []))) := (kT_18 1).trans rfl
theorem r_18_2 : xT.1 18 2 = some (.invokevirtual 89, ((12, 2), ([], [0]))) := (kT_18 2).trans rfl
theorem r_18_5 : xT.1 18 5 = some (.ifCond .ne 7, ((12, 0), ([], []))) := (kT_18 5).trans rfl
theorem r_18_8 : xT.1 18 8 = some (.getstatic 93, ((0, 0), ([.ref 1], []))) := (kT_18 8).trans rfl
theorem r_18_11 : xT.1 18 11 = some (.areturn, ((0, 0), ([], []))) := (kT_18 11).trans rfl
theorem r_18_12 : xT.1 18 12 = some (.aload_n 0, ((0, 0), ([], []))) := (kT_18 12).trans rfl
theorem r_18_13 : xT.1 18 13 = some (.iload_n 2, ((0, 0), ([], []))) := (kT_18 13).trans rfl
theorem r_18_14 : xT.1 18 14 = some (.invokevirtual 96, ((13, 2), ([], [0]))) := (kT_18 14).trans rfl
theorem r_18_17 : xT.1 18 17 = some (.istore 7, ((0, 0), ([], []))) := (kT_18 17).trans rfl
theorem r_18_19 : xT.1 18 19 = some (.iload 7, ((0, 0), ([], []))) := (kT_18 19).trans rfl
theorem r_18_21 : xT.1 18 21 = some (.iconst (-1), ((0, 0), ([.int (-1)], []))) := (kT_18 21).trans rfl
theorem r_18_22 : xT.1 18 22 = some (.if_icmp .ne 7, ((29, 0), ([], []))) := (kT_18 22).trans rfl
theorem r_18_25 : xT.1 18 25 = some (.getstatic 100, ((0, 0), ([.ref 2], []))) := (kT_18 25).trans rfl
theorem r_18_28 : xT.1 18 28 = some (.areturn, ((0, 0), ([], []))) := (kT_18 28).trans rfl
theorem r_18_29 : xT.1 18 29 = some (.iload_n 3, ((0, 0), ([], []))) := (kT_18 29).trans rfl
theorem r_18_30 : xT.1 18 30 = some (.invokestatic 103, ((136, 1), ([], [3]))) := (kT_18 30).trans rfl
theorem r_18_33 : xT.1 18 33 = some (.ifCond .eq 38, ((71, 0), ([], []))) := (kT_18 33).trans rfl
theorem r_18_36 : xT.1 18 36 = some (.iload 4, ((0, 0), ([], []))) := (kT_18 36).trans rfl
theorem r_18_38 : xT.1 18 38 = some (.invokestatic 103, ((136, 1), ([], [3]))) := (kT_18 38).trans rfl
theorem r_18_41 : xT.1 18 41 = some (.ifCond .eq 30, ((71, 0), ([], []))) := (kT_18 41).trans rfl
theorem r_18_44 : xT.1 18 44 = some (.iload_n 3, ((0, 0), ([], []))) := (kT_18 44).trans rfl
theorem r_18_45 : xT.1 18 45 = some (.iload 4, ((0, 0), ([], []))) := (kT_18 45).trans rfl
theorem r_18_47 : xT.1 18 47 = some (.if_icmp .gt 24, ((71, 0), ([], []))) := (kT_18 47).trans rfl
theorem r_18_50 : xT.1 18 50 = some (.iload 5, ((0, 0), ([], []))) := (kT_18 50).trans rfl
theorem r_18_52 : xT.1 18 52 = some (.invokestatic 106, ((137, 1), ([], [3]))) := (kT_18 52).trans rfl
theorem r_18_55 : xT.1 18 55 = some (.ifCond .eq 16, ((71, 0), ([], []))) := (kT_18 55).trans rfl
theorem r_18_58 : xT.1 18 58 = some (.iload 6, ((0, 0), ([], []))) := (kT_18 58).trans rfl
theorem r_18_60 : xT.1 18 60 = some (.iconst 1, ((0, 0), ([.int 1], []))) := (kT_18 60).trans rfl
theorem r_18_61 : xT.1 18 61 = some (.if_icmp .lt 10, ((71, 0), ([], []))) := (kT_18 61).trans rfl
theorem r_18_64 : xT.1 18 64 = some (.iload 6, ((0, 0), ([], []))) := (kT_18 64).trans rfl
theorem r_18_66 : xT.1 18 66 = some (.bipush 20, ((0, 0), ([.int 20], []))) := (kT_18 66).trans rfl
theorem r_18_68 : xT.1 18 68 = some (.if_icmp .le 7, ((75, 0), ([], []))) := (kT_18 68).trans rfl
theorem r_18_71 : xT.1 18 71 = some (.getstatic 83, ((0, 0), ([.ref 3], []))) := (kT_18 71).trans rfl
theorem r_18_74 : xT.1 18 74 = some (.areturn, ((0, 0), ([], []))) := (kT_18 74).trans rfl
theorem r_18_75 : xT.1 18 75 = some (.aload_n 0, ((0, 0), ([], []))) := (kT_18 75).trans rfl
theorem r_18_76 : xT.1 18 76 = some (.getfield 11, ((1, 0), ([], []))) := (kT_18 76).trans rfl
theorem r_18_79 : xT.1 18 79 = some (.iload_n 1, ((0, 0), ([], []))) := (kT_18 79).trans rfl
theorem r_18_80 : xT.1 18 80 = some (.aaload, ((0, 0), ([], []))) := (kT_18 80).trans rfl
theorem r_18_81 : xT.1 18 81 = some (.getfield 109, ((6, 3), ([], []))) := (kT_18 81).trans rfl
theorem r_18_84 : xT.1 18 84 = some (.ifCond .eq 7, ((91, 0), ([], []))) := (kT_18 84).trans rfl
theorem r_18_87 : xT.1 18 87 = some (.getstatic 113, ((0, 0), ([.ref 4], []))) := (kT_18 87).trans rfl
theorem r_18_90 : xT.1 18 90 = some (.areturn, ((0, 0), ([], []))) := (kT_18 90).trans rfl
theorem r_18_91 : xT.1 18 91 = some (.aload_n 0, ((0, 0), ([], []))) := (kT_18 91).trans rfl
theorem r_18_92 : xT.1 18 92 = some (.getfield 19, ((1, 1), ([], []))) := (kT_18 92).trans rfl
theorem r_18_95 : xT.1 18 95 = some (.iload 7, ((0, 0), ([], []))) := (kT_18 95).trans rfl
theorem r_18_97 : xT.1 18 97 = some (.aaload, ((0, 0), ([], []))) := (kT_18 97).trans rfl
theorem r_18_98 : xT.1 18 98 = some (.iload_n 1, ((0, 0), ([], []))) := (kT_18 98).trans rfl
theorem r_18_99 : xT.1 18 99 = some (.invokevirtual 116, ((78, 2), ([], [0]))) := (kT_18 99).trans rfl
theorem r_18_102 : xT.1 18 102 = some (.iconst (-1), ((0, 0), ([.int (-1)], []))) := (kT_18 102).trans rfl
theorem r_18_103 : xT.1 18 103 = some (.if_icmp .ne 17, ((120, 0), ([], []))) := (kT_18 103).trans rfl
theorem r_18_106 : xT.1 18 106 = some (.aload_n 0, ((0, 0), ([], []))) := (kT_18 106).trans rfl
theorem r_18_107 : xT.1 18 107 = some (.getfield 11, ((1, 0), ([], []))) := (kT_18 107).trans rfl
theorem r_18_110 : xT.1 18 110 = some (.iload_n 1, ((0, 0), ([], []))) := (kT_18 110).trans rfl
theorem r_18_111 : xT.1 18 111 = some (.aaload, ((0, 0), ([], []))) := (kT_18 111).trans rfl
theorem r_18_112 : xT.1 18 112 = some (.getfield 119, ((6, 1), ([], []))) := (kT_18 112).trans rfl
theorem r_18_115 : xT.1 18 115 = some (.iload 6, ((0, 0), ([], []))) := (kT_18 115).trans rfl
theorem r_18_117 : xT.1 18 117 = some (.if_icmp .ge 7, ((124, 0), ([], []))) := (kT_18 117).trans rfl
theorem r_18_120 : xT.1 18 120 = some (.getstatic 77, ((0, 0), ([.ref 5], []))) := (kT_18 120).trans rfl
theorem r_18_123 : xT.1 18 123 = some (.areturn, ((0, 0), ([], []))) := (kT_18 123).trans rfl
theorem r_18_124 : xT.1 18 124 = some (.getstatic 71, ((0, 0), ([.ref 0], []))) := (kT_18 124).trans rfl
theorem r_18_127 : xT.1 18 127 = some (.areturn, ((0, 0), ([], []))) := (kT_18 127).trans rfl
theorem kT_19 (pc : Nat) : xT.1 19 pc = xfind k_19 pc := rfl
theorem r_19_0 : xT.1 19 0 = some (.aload_n 0, ((0, 0), ([], []))) := (kT_19 0).trans rfl
theorem r_19_1 : xT.1 19 1 = some (.iload_n 2, ((0, 0), ([], []))) := (kT_19 1).trans rfl
theorem r_19_2 : xT.1 19 2 = some (.invokevirtual 96, ((13, 2), ([], [0]))) := (kT_19 2).trans rfl
theorem r_19_5 : xT.1 19 5 = some (.istore 7, ((0, 0), ([], []))) := (kT_19 5).trans rfl
theorem r_19_7 : xT.1 19 7 = some (.iload 7, ((0, 0), ([], []))) := (kT_19 7).trans rfl
theorem r_19_9 : xT.1 19 9 = some (.iconst (-1), ((0, 0), ([.int (-1)], []))) := (kT_19 9).trans rfl
theorem r_19_10 : xT.1 19 10 = some (.if_icmp .eq 37, ((47, 0), ([], []))) := (kT_19 10).trans rfl
theorem r_19_13 : xT.1 19 13 = some (.aload_n 0, ((0, 0), ([], []))) := (kT_19 13).trans rfl
theorem r_19_14 : xT.1 19 14 = some (.getfield 19, ((1, 1), ([], []))) := (kT_19 14).trans rfl
theorem r_19_17 : xT.1 19 17 = some (.iload 7, ((0, 0), ([], []))) := (kT_19 17).trans rfl
theorem r_19_19 : xT.1 19 19 = some (.aaload, ((0, 0), ([], []))) := (kT_19 19).trans rfl
theorem r_19_20 : xT.1 19 20 = some (.iload_n 1, ((0, 0), ([], []))) := (kT_19 20).trans rfl
theorem r_19_21 : xT.1 19 21 = some (.iload_n 3, ((0, 0), ([], []))) := (kT_19 21).trans rfl
theorem r_19_22 : xT.1 19 22 = some (.iload 4, ((0, 0), ([], []))) := (kT_19 22).trans rfl
theorem r_19_24 : xT.1 19 24 = some (.iload 5, ((0, 0), ([], []))) := (kT_19 24).trans rfl
theorem r_19_26 : xT.1 19 26 = some (.iload 6, ((0, 0), ([], []))) := (kT_19 26).trans rfl
theorem r_19_28 : xT.1 19 28 = some (.invokevirtual 122, ((79, 6), ([], [0]))) := (kT_19 28).trans rfl
theorem r_19_31 : xT.1 19 31 = some (.aload_n 0, ((0, 0), ([], []))) := (kT_19 31).trans rfl
theorem r_19_32 : xT.1 19 32 = some (.getfield 11, ((1, 0), ([], []))) := (kT_19 32).trans rfl
theorem r_19_35 : xT.1 19 35 = some (.iload_n 1, ((0, 0), ([], []))) := (kT_19 35).trans rfl
theorem r_19_36 : xT.1 19 36 = some (.aaload, ((0, 0), ([], []))) := (kT_19 36).trans rfl
theorem r_19_37 : xT.1 19 37 = some (.dup, ((0, 0), ([], []))) := (kT_19 37).trans rfl
theorem r_19_38 : xT.1 19 38 = some (.getfield 119, ((6, 1), ([], []))) := (kT_19 38).trans rfl
theorem r_19_41 : xT.1 19 41 = some (.iload 6, ((0, 0), ([], []))) := (kT_19 41).trans rfl
theorem r_19_43 : xT.1 19 43 = some (.isub, ((0, 0), ([], []))) := (kT_19 43).trans rfl
theorem r_19_44 : xT.1 19 44 = some (.putfield 119, ((6, 1), ([], [0]))) := (kT_19 44).trans rfl
theorem r_19_47 : xT.1 19 47 = some (.aload_n 0, ((0, 0), ([], []))) := (kT_19 47).trans rfl
theorem r_19_48 : xT.1 19 48 = some (.getfield 11, ((1, 0), ([], []))) := (kT_19 48).trans rfl
theorem r_19_51 : xT.1 19 51 = some (.iload_n 1, ((0, 0), ([], []))) := (kT_19 51).trans rfl
theorem r_19_52 : xT.1 19 52 = some (.aaload, ((0, 0), ([], []))) := (kT_19 52).trans rfl
theorem r_19_53 : xT.1 19 53 = some (.getfield 119, ((6, 1), ([], []))) := (kT_19 53).trans rfl
theorem r_19_56 : xT.1 19 56 = some (.ireturn, ((0, 0), ([], []))) := (kT_19 56).trans rfl
theorem kT_20 (pc : Nat) : xT.1 20 pc = xfind k_20 pc := rfl
theorem r_20_0 : xT.1 20 0 = some (.iload_n 1, ((0, 0), ([], []))) := (kT_20 0).trans rfl
theorem r_20_1 : xT.1 20 1 = some (.invokestatic 103, ((136, 1), ([], [3]))) := (kT_20 1).trans rfl
theorem r_20_4 : xT.1 20 4 = some (.ifCond .eq 10, ((14, 0), ([], []))) := (kT_20 4).trans rfl
theorem r_20_7 : xT.1 20 7 = some (.aload_n 0, ((0, 0), ([], []))) := (kT_20 7).trans rfl
theorem r_20_8 : xT.1 20 8 = some (.invokevirtual 126, ((25, 1), ([], [0]))) := (kT_20 8).trans rfl
theorem r_20_11 : xT.1 20 11 = some (.goto 6, ((17, 0), ([], []))) := (kT_20 11).trans rfl
theorem r_20_14 : xT.1 20 14 = some (.getstatic 83, ((0, 0), ([.ref 3], []))) := (kT_20 14).trans rfl
theorem r_20_17 : xT.1 20 17 = some (.areturn, ((0, 0), ([], []))) := (kT_20 17).trans rfl
theorem kT_21 (pc : Nat) : xT.1 21 pc = xfind k_21 pc := rfl
theorem r_21_0 : xT.1 21 0 = some (.aload_n 0, ((0, 0), ([], []))) := (kT_21 0).trans rfl
theorem r_21_1 : xT.1 21 1 = some (.getfield 19, ((1, 1), ([], []))) := (kT_21 1).trans rfl
theorem r_21_4 : xT.1 21 4 = some (.iconst 0, ((0, 0), ([.int 0], []))) := (kT_21 4).trans rfl
theorem r_21_5 : xT.1 21 5 = some (.aaload, ((0, 0), ([], []))) := (kT_21 5).trans rfl
theorem r_21_6 : xT.1 21 6 = some (.astore_n 2, ((0, 0), ([], []))) := (kT_21 6).trans rfl
theorem r_21_7 : xT.1 21 7 = some (.iconst 0, ((0, 0), ([.int 0], []))) := (kT_21 7).trans rfl
theorem r_21_8 : xT.1 21 8 = some (.istore_n 3, ((0, 0), ([], []))) := (kT_21 8).trans rfl
theorem r_21_9 : xT.1 21 9 = some (.iconst 0, ((0, 0), ([.int 0], []))) := (kT_21 9).trans rfl
theorem r_21_10 : xT.1 21 10 = some (.istore 4, ((0, 0), ([], []))) := (kT_21 10).trans rfl
theorem r_21_12 : xT.1 21 12 = some (.iload 4, ((0, 0), ([], []))) := (kT_21 12).trans rfl
theorem r_21_14 : xT.1 21 14 = some (.aload_n 2, ((0, 0), ([], []))) := (kT_21 14).trans rfl
theorem r_21_15 : xT.1 21 15 = some (.getfield 130, ((7, 3), ([], []))) := (kT_21 15).trans rfl
theorem r_21_18 : xT.1 21 18 = some (.if_icmp .ge 31, ((49, 0), ([], []))) := (kT_21 18).trans rfl
theorem r_21_21 : xT.1 21 21 = some (.aload_n 0, ((0, 0), ([], []))) := (kT_21 21).trans rfl
theorem r_21_22 : xT.1 21 22 = some (.aload_n 2, ((0, 0), ([], []))) := (kT_21 22).trans rfl
theorem r_21_23 : xT.1 21 23 = some (.getfield 133, ((7, 0), ([], []))) := (kT_21 23).trans rfl
theorem r_21_26 : xT.1 21 26 = some (.iload 4, ((0, 0), ([], []))) := (kT_21 26).trans rfl
theorem r_21_28 : xT.1 21 28 = some (.aaload, ((0, 0), ([], []))) := (kT_21 28).trans rfl
theorem r_21_29 : xT.1 21 29 = some (.aload_n 2, ((0, 0), ([], []))) := (kT_21 29).trans rfl
theorem r_21_30 : xT.1 21 30 = some (.getfield 137, ((7, 2), ([], []))) := (kT_21 30).trans rfl
theorem r_21_33 : xT.1 21 33 = some (.iload_n 1, ((0, 0), ([], []))) := (kT_21 33).trans rfl
theorem r_21_34 : xT.1 21 34 = some (.invokevirtual 140, ((22, 4), ([], [0]))) := (kT_21 34).trans rfl
theorem r_21_37 : xT.1 21 37 = some (.ifCond .eq 6, ((43, 0), ([], []))) := (kT_21 37).trans rfl
theorem r_21_40 : xT.1 21 40 = some (.iinc 3 1, ((0, 0), ([.int (1)], []))) := (kT_21 40).trans rfl
theorem r_21_43 : xT.1 21 43 = some (.iinc 4 1, ((0, 0), ([.int (1)], []))) := (kT_21 43).trans rfl
theorem r_21_46 : xT.1 21 46 = some (.goto (-34), ((12, 0), ([], []))) := (kT_21 46).trans rfl
theorem r_21_49 : xT.1 21 49 = some (.aload_n 0, ((0, 0), ([], []))) := (kT_21 49).trans rfl
theorem r_21_50 : xT.1 21 50 = some (.invokevirtual 144, ((24, 1), ([], [0]))) := (kT_21 50).trans rfl
theorem r_21_53 : xT.1 21 53 = some (.aload_n 0, ((0, 0), ([], []))) := (kT_21 53).trans rfl
theorem r_21_54 : xT.1 21 54 = some (.dup, ((0, 0), ([], []))) := (kT_21 54).trans rfl
theorem r_21_55 : xT.1 21 55 = some (.getfield 40, ((1, 5), ([], []))) := (kT_21 55).trans rfl
theorem r_21_58 : xT.1 21 58 = some (.iconst 1, ((0, 0), ([.int 1], []))) := (kT_21 58).trans rfl
theorem r_21_59 : xT.1 21 59 = some (.isub, ((0, 0), ([], []))) := (kT_21 59).trans rfl
theorem r_21_60 : xT.1 21 60 = some (.putfield 40, ((1, 5), ([], [0]))) := (kT_21 60).trans rfl
theorem r_21_63 : xT.1 21 63 = some (.aload_n 0, ((0, 0), ([], []))) := (kT_21 63).trans rfl
theorem r_21_64 : xT.1 21 64 = some (.iload_n 1, ((0, 0), ([], []))) := (kT_21 64).trans rfl
theorem r_21_65 : xT.1 21 65 = some (.invokevirtual 147, ((23, 2), ([], [0]))) := (kT_21 65).trans rfl
theorem r_21_68 : xT.1 21 68 = some (.iload_n 3, ((0, 0), ([], []))) := (kT_21 68).trans rfl
theorem r_21_69 : xT.1 21 69 = some (.ireturn, ((0, 0), ([], []))) := (kT_21 69).trans rfl
theorem kT_22 (pc : Nat) : xT.1 22 pc = xfind k_22 pc := rfl
theorem r_22_0 : xT.1 22 0 = some (.aload_n 0, ((0, 0), ([], []))) := (kT_22 0).trans rfl
theorem r_22_1 : xT.1 22 1 = some (.aload_n 1, ((0, 0), ([], []))) := (kT_22 1).trans rfl
theorem r_22_2 : xT.1 22 2 = some (.getfield 151, ((4, 0), ([], []))) := (kT_22 2).trans rfl
theorem r_22_5 : xT.1 22 5 = some (.invokevirtual 89, ((12, 2), ([], [0]))) := (kT_22 5).trans rfl
theorem r_22_8 : xT.1 22 8 = some (.ifCond .ne 5, ((13, 0), ([], []))) := (kT_22 8).trans rfl
theorem r_22_11 : xT.1 22 11 = some (.iconst 0, ((0, 0), ([.int 0], []))) := (kT_22 11).trans rfl
theorem r_22_12 : xT.1 22 12 = some (.ireturn, ((0, 0), ([], []))) := (kT_22 12).trans rfl
theorem r_22_13 : xT.1 22 13 = some (.aload_n 0, ((0, 0), ([], []))) := (kT_22 13).trans rfl
theorem r_22_14 : xT.1 22 14 = some (.getfield 11, ((1, 0), ([], []))) := (kT_22 14).trans rfl
theorem r_22_17 : xT.1 22 17 = some (.aload_n 1, ((0, 0), ([], []))) := (kT_22 17).trans rfl
theorem r_22_18 : xT.1 22 18 = some (.getfield 151, ((4, 0), ([], []))) := (kT_22 18).trans rfl
theorem r_22_21 : xT.1 22 21 = some (.aaload, ((0, 0), ([], []))) := (kT_22 21).trans rfl
theorem r_22_22 : xT.1 22 22 = some (.astore 4, ((0, 0), ([], []))) := (kT_22 22).trans rfl
theorem r_22_24 : xT.1 22 24 = some (.aload_n 1, ((0, 0), ([], []))) := (kT_22 24).trans rfl
theorem r_22_25 : xT.1 22 25 = some (.iload_n 3, ((0, 0), ([], []))) := (kT_22 25).trans rfl
theorem r_22_26 : xT.1 22 26 = some (.invokevirtual 156, ((60, 2), ([], [0]))) := (kT_22 26).trans rfl
theorem r_22_29 : xT.1 22 29 = some (.istore 5, ((0, 0), ([], []))) := (kT_22 29).trans rfl
theorem r_22_31 : xT.1 22 31 = some (.iload 5, ((0, 0), ([], []))) := (kT_22 31).trans rfl
theorem r_22_33 : xT.1 22 33 = some (.ifCond .eq 38, ((71, 0), ([], []))) := (kT_22 33).trans rfl
theorem r_22_36 : xT.1 22 36 = some (.aload 4, ((0, 0), ([], []))) := (kT_22 36).trans rfl
theorem r_22_38 : xT.1 22 38 = some (.dup, ((0, 0), ([], []))) := (kT_22 38).trans rfl
theorem r_22_39 : xT.1 22 39 = some (.getfield 119, ((6, 1), ([], []))) := (kT_22 39).trans rfl
theorem r_22_42 : xT.1 22 42 = some (.aload_n 1, ((0, 0), ([], []))) := (kT_22 42).trans rfl
theorem r_22_43 : xT.1 22 43 = some (.getfield 159, ((4, 4), ([], []))) := (kT_22 43).trans rfl
theorem r_22_46 : xT.1 22 46 = some (.aload_n 1, ((0, 0), ([], []))) := (kT_22 46).trans rfl
theorem r_22_47 : xT.1 22 47 = some (.invokevirtual 162, ((61, 1), ([], [0]))) := (kT_22 47).trans rfl
theorem r_22_50 : xT.1 22 50 = some (.iadd, ((0, 0), ([], []))) := (kT_22 50).trans rfl
theorem r_22_51 : xT.1 22 51 = some (.iadd, ((0, 0), ([], []))) := (kT_22 51).trans rfl
theorem r_22_52 : xT.1 22 52 = some (.putfield 119, ((6, 1), ([], [0]))) := (kT_22 52).trans rfl
theorem r_22_55 : xT.1 22 55 = some (.aload_n 0, ((0, 0), ([], []))) := (kT_22 55).trans rfl
theorem r_22_56 : xT.1 22 56 = some (.dup, ((0, 0), ([], []))) := (kT_22 56).trans rfl
theorem r_22_57 : xT.1 22 57 = some (.getfield 49, ((1, 8), ([], []))) := (kT_22 57).trans rfl
theorem r_22_60 : xT.1 22 60 = some (.aload_n 1, ((0, 0), ([], []))) := (kT_22 60).trans rfl
theorem r_22_61 : xT.1 22 61 = some (.invokevirtual 162, ((61, 1), ([], [0]))) := (kT_22 61).trans rfl
theorem r_22_64 : xT.1 22 64 = some (.isub, ((0, 0), ([], []))) := (kT_22 64).trans rfl
theorem r_22_65 : xT.1 22 65 = some (.putfield 49, ((1, 8), ([], [0]))) := (kT_22 65).trans rfl
theorem r_22_68 : xT.1 22 68 = some (.goto 16, ((84, 0), ([], []))) := (kT_22 68).trans rfl
theorem r_22_71 : xT.1 22 71 = some (.aload_n 0, ((0, 0), ([], []))) := (kT_22 71).trans rfl
theorem r_22_72 : xT.1 22 72 = some (.dup, ((0, 0), ([], []))) := (kT_22 72).trans rfl
theorem r_22_73 : xT.1 22 73 = some (.getfield 49, ((1, 8), ([], []))) := (kT_22 73).trans rfl
theorem r_22_76 : xT.1 22 76 = some (.aload_n 1, ((0, 0), ([], []))) := (kT_22 76).trans rfl
theorem r_22_77 : xT.1 22 77 = some (.getfield 159, ((4, 4), ([], []))) := (kT_22 77).trans rfl
theorem r_22_80 : xT.1 22 80 = some (.iadd, ((0, 0), ([], []))) := (kT_22 80).trans rfl
theorem r_22_81 : xT.1 22 81 = some (.putfield 49, ((1, 8), ([], [0]))) := (kT_22 81).trans rfl
theorem r_22_84 : xT.1 22 84 = some (.aload 4, ((0, 0), ([], []))) := (kT_22 84).trans rfl
theorem r_22_86 : xT.1 22 86 = some (.dup, ((0, 0), ([], []))) := (kT_22 86).trans rfl
theorem r_22_87 : xT.1 22 87 = some (.getfield 166, ((6, 2), ([], []))) := (kT_22 87).trans rfl
theorem r_22_90 : xT.1 22 90 = some (.iload_n 2, ((0, 0), ([], []))) := (kT_22 90).trans rfl
theorem r_22_91 : xT.1 22 91 = some (.aload_n 1, ((0, 0), ([], []))) := (kT_22 91).trans rfl
theorem r_22_92 : xT.1 22 92 = some (.iload_n 3, ((0, 0), ([], []))) := (kT_22 92).trans rfl
theorem r_22_93 : xT.1 22 93 = some (.invokevirtual 169, ((62, 2), ([], [0]))) := (kT_22 93).trans rfl
theorem r_22_96 : xT.1 22 96 = some (.imul, ((0, 0), ([], []))) := (kT_22 96).trans rfl
theorem r_22_97 : xT.1 22 97 = some (.iadd, ((0, 0), ([], []))) := (kT_22 97).trans rfl
theorem r_22_98 : xT.1 22 98 = some (.putfield 166, ((6, 2), ([], [0]))) := (kT_22 98).trans rfl
theorem r_22_101 : xT.1 22 101 = some (.aload 4, ((0, 0), ([], []))) := (kT_22 101).trans rfl
theorem r_22_103 : xT.1 22 103 = some (.getfield 172, ((6, 0), ([], []))) := (kT_22 103).trans rfl
theorem r_22_106 : xT.1 22 106 = some (.aload_n 1, ((0, 0), ([], []))) := (kT_22 106).trans rfl
theorem r_22_107 : xT.1 22 107 = some (.getfield 173, ((4, 3), ([], []))) := (kT_22 107).trans rfl
theorem r_22_110 : xT.1 22 110 = some (.iload 5, ((0, 0), ([], []))) := (kT_22 110).trans rfl
theorem r_22_112 : xT.1 22 112 = some (.invokevirtual 176, ((3, 3), ([], [0]))) := (kT_22 112).trans rfl
theorem r_22_115 : xT.1 22 115 = some (.aload_n 0, ((0, 0), ([], []))) := (kT_22 115).trans rfl
theorem r_22_116 : xT.1 22 116 = some (.getfield 26, ((1, 2), ([], []))) := (kT_22 116).trans rfl
theorem r_22_119 : xT.1 22 119 = some (.aload_n 1, ((0, 0), ([], []))) := (kT_22 119).trans rfl
theorem r_22_120 : xT.1 22 120 = some (.getfield 173, ((4, 3), ([], []))) := (kT_22 120).trans rfl
theorem r_22_123 : xT.1 22 123 = some (.iload 5, ((0, 0), ([], []))) := (kT_22 123).trans rfl
theorem r_22_125 : xT.1 22 125 = some (.invokevirtual 176, ((3, 3), ([], [0]))) := (kT_22 125).trans rfl
theorem r_22_128 : xT.1 22 128 = some (.iload 5, ((0, 0), ([], []))) := (kT_22 128).trans rfl
theorem r_22_130 : xT.1 22 130 = some (.ireturn, ((0, 0), ([], []))) := (kT_22 130).trans rfl
theorem kT_23 (pc : Nat) : xT.1 23 pc = xfind k_23 pc := rfl
theorem r_23_0 : xT.1 23 0 = some (.iconst 4, ((0, 0), ([.int 4], []))) := (kT_23 0).trans rfl
theorem r_23_1 : xT.1 23 1 = some (.istore_n 2, ((0, 0), ([], []))) := (kT_23 1).trans rfl
theorem r_23_2 : xT.1 23 2 = some (.iload_n 2, ((0, 0), ([], []))) := (kT_23 2).trans rfl
theorem r_23_3 : xT.1 23 3 = some (.ifCond .le 23, ((26, 0), ([], []))) := (kT_23 3).trans rfl
theorem r_23_6 : xT.1 23 6 = some (.aload_n 0, ((0, 0), ([], []))) := (kT_23 6).trans rfl
theorem r_23_7 : xT.1 23 7 = some (.getfield 30, ((1, 3), ([], []))) := (kT_23 7).trans rfl
theorem r_23_10 : xT.1 23 10 = some (.iload_n 2, ((0, 0), ([], []))) := (kT_23 10).trans rfl
theorem r_23_11 : xT.1 23 11 = some (.aload_n 0, ((0, 0), ([], []))) := (kT_23 11).trans rfl
theorem r_23_12 : xT.1 23 12 = some (.getfield 30, ((1, 3), ([], []))) := (kT_23 12).trans rfl
theorem r_23_15 : xT.1 23 15 = some (.iload_n 2, ((0, 0), ([], []))) := (kT_23 15).trans rfl
theorem r_23_16 : xT.1 23 16 = some (.iconst 1, ((0, 0), ([.int 1], []))) := (kT_23 16).trans rfl
theorem r_23_17 : xT.1 23 17 = some (.isub, ((0, 0), ([], []))) := (kT_23 17).trans rfl
theorem r_23_18 : xT.1 23 18 = some (.iaload, ((0, 0), ([], []))) := (kT_23 18).trans rfl
theorem r_23_19 : xT.1 23 19 = some (.iastore, ((0, 0), ([], []))) := (kT_23 19).trans rfl
theorem r_23_20 : xT.1 23 20 = some (.iinc 2 (-1), ((0, 0), ([.int (-1)], []))) := (kT_23 20).trans rfl
theorem r_23_23 : xT.1 23 23 = some (.goto (-21), ((2, 0), ([], []))) := (kT_23 23).trans rfl
theorem r_23_26 : xT.1 23 26 = some (.aload_n 0, ((0, 0), ([], []))) := (kT_23 26).trans rfl
theorem r_23_27 : xT.1 23 27 = some (.getfield 30, ((1, 3), ([], []))) := (kT_23 27).trans rfl
theorem r_23_30 : xT.1 23 30 = some (.iconst 0, ((0, 0), ([.int 0], []))) := (kT_23 30).trans rfl
theorem r_23_31 : xT.1 23 31 = some (.iload_n 1, ((0, 0), ([], []))) := (kT_23 31).trans rfl
theorem r_23_32 : xT.1 23 32 = some (.iastore, ((0, 0), ([], []))) := (kT_23 32).trans rfl
theorem r_23_33 : xT.1 23 33 = some (.aload_n 0, ((0, 0), ([], []))) := (kT_23 33).trans rfl
theorem r_23_34 : xT.1 23 34 = some (.dup, ((0, 0), ([], []))) := (kT_23 34).trans rfl
theorem r_23_35 : xT.1 23 35 = some (.getfield 46, ((1, 7), ([], []))) := (kT_23 35).trans rfl
theorem r_23_38 : xT.1 23 38 = some (.iconst 1, ((0, 0), ([.int 1], []))) := (kT_23 38).trans rfl
theorem r_23_39 : xT.1 23 39 = some (.iadd, ((0, 0), ([], []))) := (kT_23 39).trans rfl
theorem r_23_40 : xT.1 23 40 = some (.putfield 46, ((1, 7), ([], [0]))) := (kT_23 40).trans rfl
theorem r_23_43 : xT.1 23 43 = some (.return_, ((0, 0), ([], []))) := (kT_23 43).trans rfl
theorem kT_24 (pc : Nat) : xT.1 24 pc = xfind k_24 pc := rfl
theorem r_24_0 : xT.1 24 0 = some (.aload_n 0, ((0, 0), ([], []))) := (kT_24 0).trans rfl
theorem r_24_1 : xT.1 24 1 = some (.getfield 19, ((1, 1), ([], []))) := (kT_24 1).trans rfl
theorem r_24_4 : xT.1 24 4 = some (.iconst 0, ((0, 0), ([.int 0], []))) := (kT_24 4).trans rfl
theorem r_24_5 : xT.1 24 5 = some (.aaload, ((0, 0), ([], []))) := (kT_24 5).trans rfl
theorem r_24_6 : xT.1 24 6 = some (.astore_n 1, ((0, 0), ([], []))) := (kT_24 6).trans rfl
theorem r_24_7 : xT.1 24 7 = some (.iconst 1, ((0, 0), ([.int 1], []))) := (kT_24 7).trans rfl
theorem r_24_8 : xT.1 24 8 = some (.istore_n 2, ((0, 0), ([], []))) := (kT_24 8).trans rfl
theorem r_24_9 : xT.1 24 9 = some (.iload_n 2, ((0, 0), ([], []))) := (kT_24 9).trans rfl
theorem r_24_10 : xT.1 24 10 = some (.aload_n 0, ((0, 0), ([], []))) := (kT_24 10).trans rfl
theorem r_24_11 : xT.1 24 11 = some (.getfield 40, ((1, 5), ([], []))) := (kT_24 11).trans rfl
theorem r_24_14 : xT.1 24 14 = some (.if_icmp .ge 23, ((37, 0), ([], []))) := (kT_24 14).trans rfl
theorem r_24_17 : xT.1 24 17 = some (.aload_n 0, ((0, 0), ([], []))) := (kT_24 17).trans rfl
theorem r_24_18 : xT.1 24 18 = some (.getfield 19, ((1, 1), ([], []))) := (kT_24 18).trans rfl
theorem r_24_21 : xT.1 24 21 = some (.iload_n 2, ((0, 0), ([], []))) := (kT_24 21).trans rfl
theorem r_24_22 : xT.1 24 22 = some (.iconst 1, ((0, 0), ([.int 1], []))) := (kT_24 22).trans rfl
theorem r_24_23 : xT.1 24 23 = some (.isub, ((0, 0), ([], []))) := (kT_24 23).trans rfl
theorem r_24_24 : xT.1 24 24 = some (.aload_n 0, ((0, 0), ([], []))) := (kT_24 24).trans rfl
theorem r_24_25 : xT.1 24 25 = some (.getfield 19, ((1, 1), ([], []))) := (kT_24 25).trans rfl
theorem r_24_28 : xT.1 24 28 = some (.iload_n 2, ((0, 0), ([], []))) := (kT_24 28).trans rfl
theorem r_24_29 : xT.1 24 29 = some (.aaload, ((0, 0), ([], []))) := (kT_24 29).trans rfl
theorem r_24_30 : xT.1 24 30 = some (.aastore, ((0, 0), ([], []))) := (kT_24 30).trans rfl
theorem r_24_31 : xT.1 24 31 = some (.iinc 2 1, ((0, 0), ([.int (1)], []))) := (kT_24 31).trans rfl
theorem r_24_34 : xT.1 24 34 = some (.goto (-25), ((9, 0), ([], []))) := (kT_24 34).trans rfl
theorem r_24_37 : xT.1 24 37 = some (.aload_n 0, ((0, 0), ([], []))) := (kT_24 37).trans rfl
theorem r_24_38 : xT.1 24 38 = some (.getfield 19, ((1, 1), ([], []))) := (kT_24 38).trans rfl
theorem r_24_41 : xT.1 24 41 = some (.aload_n 0, ((0, 0), ([], []))) := (kT_24 41).trans rfl
theorem r_24_42 : xT.1 24 42 = some (.getfield 40, ((1, 5), ([], []))) := (kT_24 42).trans rfl
theorem r_24_45 : xT.1 24 45 = some (.iconst 1, ((0, 0), ([.int 1], []))) := (kT_24 45).trans rfl
theorem r_24_46 : xT.1 24 46 = some (.isub, ((0, 0), ([], []))) := (kT_24 46).trans rfl
theorem r_24_47 : xT.1 24 47 = some (.aload_n 1, ((0, 0), ([], []))) := (kT_24 47).trans rfl
theorem r_24_48 : xT.1 24 48 = some (.aastore, ((0, 0), ([], []))) := (kT_24 48).trans rfl
theorem r_24_49 : xT.1 24 49 = some (.return_, ((0, 0), ([], []))) := (kT_24 49).trans rfl
theorem kT_25 (pc : Nat) : xT.1 25 pc = xfind k_25 pc := rfl
theorem r_25_0 : xT.1 25 0 = some (.aload_n 0, ((0, 0), ([], []))) := (kT_25 0).trans rfl
theorem r_25_1 : xT.1 25 1 = some (.getfield 40, ((1, 5), ([], []))) := (kT_25 1).trans rfl
theorem r_25_4 : xT.1 25 4 = some (.ifCond .le 9, ((13, 0), ([], []))) := (kT_25 4).trans rfl
theorem r_25_7 : xT.1 25 7 = some (.getstatic 71, ((0, 0), ([.ref 0], []))) := (kT_25 7).trans rfl
theorem r_25_10 : xT.1 25 10 = some (.goto 6, ((16, 0), ([], []))) := (kT_25 10).trans rfl
theorem r_25_13 : xT.1 25 13 = some (.getstatic 100, ((0, 0), ([.ref 2], []))) := (kT_25 13).trans rfl
theorem r_25_16 : xT.1 25 16 = some (.areturn, ((0, 0), ([], []))) := (kT_25 16).trans rfl
theorem kT_26 (pc : Nat) : xT.1 26 pc = xfind k_26 pc := rfl
theorem r_26_0 : xT.1 26 0 = some (.aload_n 0, ((0, 0), ([], []))) := (kT_26 0).trans rfl
theorem r_26_1 : xT.1 26 1 = some (.invokevirtual 144, ((24, 1), ([], [0]))) := (kT_26 1).trans rfl
theorem r_26_4 : xT.1 26 4 = some (.aload_n 0, ((0, 0), ([], []))) := (kT_26 4).trans rfl
theorem r_26_5 : xT.1 26 5 = some (.getfield 19, ((1, 1), ([], []))) := (kT_26 5).trans rfl
theorem r_26_8 : xT.1 26 8 = some (.iconst 0, ((0, 0), ([.int 0], []))) := (kT_26 8).trans rfl
theorem r_26_9 : xT.1 26 9 = some (.aaload, ((0, 0), ([], []))) := (kT_26 9).trans rfl
theorem r_26_10 : xT.1 26 10 = some (.getfield 68, ((7, 1), ([], []))) := (kT_26 10).trans rfl
theorem r_26_13 : xT.1 26 13 = some (.ireturn, ((0, 0), ([], []))) := (kT_26 13).trans rfl
theorem kT_27 (pc : Nat) : xT.1 27 pc = xfind k_27 pc := rfl
theorem r_27_0 : xT.1 27 0 = some (.aload_n 0, ((0, 0), ([], []))) := (kT_27 0).trans rfl
theorem r_27_1 : xT.1 27 1 = some (.iload_n 1, ((0, 0), ([], []))) := (kT_27 1).trans rfl
theorem r_27_2 : xT.1 27 2 = some (.invokevirtual 89, ((12, 2), ([], [0]))) := (kT_27 2).trans rfl
theorem r_27_5 : xT.1 27 5 = some (.ifCond .ne 7, ((12, 0), ([], []))) := (kT_27 5).trans rfl
theorem r_27_8 : xT.1 27 8 = some (.getstatic 93, ((0, 0), ([.ref 1], []))) := (kT_27 8).trans rfl
theorem r_27_11 : xT.1 27 11 = some (.areturn, ((0, 0), ([], []))) := (kT_27 11).trans rfl
theorem r_27_12 : xT.1 27 12 = some (.aload_n 0, ((0, 0), ([], []))) := (kT_27 12).trans rfl
theorem r_27_13 : xT.1 27 13 = some (.getfield 11, ((1, 0), ([], []))) := (kT_27 13).trans rfl
theorem r_27_16 : xT.1 27 16 = some (.iload_n 1, ((0, 0), ([], []))) := (kT_27 16).trans rfl
theorem r_27_17 : xT.1 27 17 = some (.aaload, ((0, 0), ([], []))) := (kT_27 17).trans rfl
theorem r_27_18 : xT.1 27 18 = some (.getfield 109, ((6, 3), ([], []))) := (kT_27 18).trans rfl
theorem r_27_21 : xT.1 27 21 = some (.ifCond .eq 9, ((30, 0), ([], []))) := (kT_27 21).trans rfl
theorem r_27_24 : xT.1 27 24 = some (.getstatic 77, ((0, 0), ([.ref 5], []))) := (kT_27 24).trans rfl
theorem r_27_27 : xT.1 27 27 = some (.goto 6, ((33, 0), ([], []))) := (kT_27 27).trans rfl
theorem r_27_30 : xT.1 27 30 = some (.getstatic 71, ((0, 0), ([.ref 0], []))) := (kT_27 30).trans rfl
theorem r_27_33 : xT.1 27 33 = some (.areturn, ((0, 0), ([], []))) := (kT_27 33).trans rfl
theorem kT_28 (pc : Nat) : xT.1 28 pc = xfind k_28 pc := rfl
theorem r_28_0 : xT.1 28 0 = some (.iconst 0, ((0, 0), ([.int 0], []))) := (kT_28 0).trans rfl
theorem r_28_1 : xT.1 28 1 = some (.istore_n 2, ((0, 0), ([], []))) := (kT_28 1).trans rfl
theorem r_28_2 : xT.1 28 2 = some (.iconst 0, ((0, 0), ([.int 0], []))) := (kT_28 2).trans rfl
theorem r_28_3 : xT.1 28 3 = some (.istore_n 3, ((0, 0), ([], []))) := (kT_28 3).trans rfl
theorem r_28_4 : xT.1 28 4 = some (.iload_n 3, ((0, 0), ([], []))) := (kT_28 4).trans rfl
theorem r_28_5 : xT.1 28 5 = some (.aload_n 0, ((0, 0), ([], []))) := (kT_28 5).trans rfl
theorem r_28_6 : xT.1 28 6 = some (.getfield 40, ((1, 5), ([], []))) := (kT_28 6).trans rfl
theorem r_28_9 : xT.1 28 9 = some (.if_icmp .ge 70, ((79, 0), ([], []))) := (kT_28 9).trans rfl
theorem r_28_12 : xT.1 28 12 = some (.aload_n 0, ((0, 0), ([], []))) := (kT_28 12).trans rfl
theorem r_28_13 : xT.1 28 13 = some (.getfield 19, ((1, 1), ([], []))) := (kT_28 13).trans rfl
theorem r_28_16 : xT.1 28 16 = some (.iload_n 3, ((0, 0), ([], []))) := (kT_28 16).trans rfl
theorem r_28_17 : xT.1 28 17 = some (.aaload, ((0, 0), ([], []))) := (kT_28 17).trans rfl
theorem r_28_18 : xT.1 28 18 = some (.iload_n 1, ((0, 0), ([], []))) := (kT_28 18).trans rfl
theorem r_28_19 : xT.1 28 19 = some (.invokevirtual 116, ((78, 2), ([], [0]))) := (kT_28 19).trans rfl
theorem r_28_22 : xT.1 28 22 = some (.istore 4, ((0, 0), ([], []))) := (kT_28 22).trans rfl
theorem r_28_24 : xT.1 28 24 = some (.iload 4, ((0, 0), ([], []))) := (kT_28 24).trans rfl
theorem r_28_26 : xT.1 28 26 = some (.iconst (-1), ((0, 0), ([.int (-1)], []))) := (kT_28 26).trans rfl
theorem r_28_27 : xT.1 28 27 = some (.if_icmp .eq 46, ((73, 0), ([], []))) := (kT_28 27).trans rfl
theorem r_28_30 : xT.1 28 30 = some (.aload_n 0, ((0, 0), ([], []))) := (kT_28 30).trans rfl
theorem r_28_31 : xT.1 28 31 = some (.getfield 11, ((1, 0), ([], []))) := (kT_28 31).trans rfl
theorem r_28_34 : xT.1 28 34 = some (.iload_n 1, ((0, 0), ([], []))) := (kT_28 34).trans rfl
theorem r_28_35 : xT.1 28 35 = some (.aaload, ((0, 0), ([], []))) := (kT_28 35).trans rfl
theorem r_28_36 : xT.1 28 36 = some (.dup, ((0, 0), ([], []))) := (kT_28 36).trans rfl
theorem r_28_37 : xT.1 28 37 = some (.getfield 119, ((6, 1), ([], []))) := (kT_28 37).trans rfl
theorem r_28_40 : xT.1 28 40 = some (.aload_n 0, ((0, 0), ([], []))) := (kT_28 40).trans rfl
theorem r_28_41 : xT.1 28 41 = some (.getfield 19, ((1, 1), ([], []))) := (kT_28 41).trans rfl
theorem r_28_44 : xT.1 28 44 = some (.iload_n 3, ((0, 0), ([], []))) := (kT_28 44).trans rfl
theorem r_28_45 : xT.1 28 45 = some (.aaload, ((0, 0), ([], []))) := (kT_28 45).trans rfl
theorem r_28_46 : xT.1 28 46 = some (.getfield 133, ((7, 0), ([], []))) := (kT_28 46).trans rfl
theorem r_28_49 : xT.1 28 49 = some (.iload 4, ((0, 0), ([], []))) := (kT_28 49).trans rfl
theorem r_28_51 : xT.1 28 51 = some (.aaload, ((0, 0), ([], []))) := (kT_28 51).trans rfl
theorem r_28_52 : xT.1 28 52 = some (.getfield 159, ((4, 4), ([], []))) := (kT_28 52).trans rfl
theorem r_28_55 : xT.1 28 55 = some (.iadd, ((0, 0), ([], []))) := (kT_28 55).trans rfl
theorem r_28_56 : xT.1 28 56 = some (.putfield 119, ((6, 1), ([], [0]))) := (kT_28 56).trans rfl
theorem r_28_59 : xT.1 28 59 = some (.aload_n 0, ((0, 0), ([], []))) := (kT_28 59).trans rfl
theorem r_28_60 : xT.1 28 60 = some (.getfield 19, ((1, 1), ([], []))) := (kT_28 60).trans rfl
theorem r_28_63 : xT.1 28 63 = some (.iload_n 3, ((0, 0), ([], []))) := (kT_28 63).trans rfl
theorem r_28_64 : xT.1 28 64 = some (.aaload, ((0, 0), ([], []))) := (kT_28 64).trans rfl
theorem r_28_65 : xT.1 28 65 = some (.iload 4, ((0, 0), ([], []))) := (kT_28 65).trans rfl
theorem r_28_67 : xT.1 28 67 = some (.invokevirtual 180, ((80, 2), ([], [0]))) := (kT_28 67).trans rfl
theorem r_28_70 : xT.1 28 70 = some (.iinc 2 1, ((0, 0), ([.int (1)], []))) := (kT_28 70).trans rfl
theorem r_28_73 : xT.1 28 73 = some (.iinc 3 1, ((0, 0), ([.int (1)], []))) := (kT_28 73).trans rfl
theorem r_28_76 : xT.1 28 76 = some (.goto (-72), ((4, 0), ([], []))) := (kT_28 76).trans rfl
theorem r_28_79 : xT.1 28 79 = some (.aload_n 0, ((0, 0), ([], []))) := (kT_28 79).trans rfl
theorem r_28_80 : xT.1 28 80 = some (.getfield 11, ((1, 0), ([], []))) := (kT_28 80).trans rfl
theorem r_28_83 : xT.1 28 83 = some (.iload_n 1, ((0, 0), ([], []))) := (kT_28 83).trans rfl
theorem r_28_84 : xT.1 28 84 = some (.aaload, ((0, 0), ([], []))) := (kT_28 84).trans rfl
theorem r_28_85 : xT.1 28 85 = some (.iconst 1, ((0, 0), ([.int 1], []))) := (kT_28 85).trans rfl
theorem r_28_86 : xT.1 28 86 = some (.putfield 109, ((6, 3), ([], [1]))) := (kT_28 86).trans rfl
theorem r_28_89 : xT.1 28 89 = some (.iload_n 2, ((0, 0), ([], []))) := (kT_28 89).trans rfl
theorem r_28_90 : xT.1 28 90 = some (.ireturn, ((0, 0), ([], []))) := (kT_28 90).trans rfl
theorem kT_29 (pc : Nat) : xT.1 29 pc = xfind k_29 pc := rfl
theorem r_29_0 : xT.1 29 0 = some (.iconst 0, ((0, 0), ([.int 0], []))) := (kT_29 0).trans rfl
theorem r_29_1 : xT.1 29 1 = some (.istore_n 1, ((0, 0), ([], []))) := (kT_29 1).trans rfl
theorem r_29_2 : xT.1 29 2 = some (.iconst 0, ((0, 0), ([.int 0], []))) := (kT_29 2).trans rfl
theorem r_29_3 : xT.1 29 3 = some (.istore_n 2, ((0, 0), ([], []))) := (kT_29 3).trans rfl
theorem r_29_4 : xT.1 29 4 = some (.iload_n 2, ((0, 0), ([], []))) := (kT_29 4).trans rfl
theorem r_29_5 : xT.1 29 5 = some (.aload_n 0, ((0, 0), ([], []))) := (kT_29 5).trans rfl
theorem r_29_6 : xT.1 29 6 = some (.getfield 40, ((1, 5), ([], []))) := (kT_29 6).trans rfl
theorem r_29_9 : xT.1 29 9 = some (.if_icmp .ge 21, ((30, 0), ([], []))) := (kT_29 9).trans rfl
theorem r_29_12 : xT.1 29 12 = some (.iload_n 1, ((0, 0), ([], []))) := (kT_29 12).trans rfl
theorem r_29_13 : xT.1 29 13 = some (.aload_n 0, ((0, 0), ([], []))) := (kT_29 13).trans rfl
theorem r_29_14 : xT.1 29 14 = some (.getfield 19, ((1, 1), ([], []))) := (kT_29 14).trans rfl
theorem r_29_17 : xT.1 29 17 = some (.iload_n 2, ((0, 0), ([], []))) := (kT_29 17).trans rfl
theorem r_29_18 : xT.1 29 18 = some (.aaload, ((0, 0), ([], []))) := (kT_29 18).trans rfl
theorem r_29_19 : xT.1 29 19 = some (.invokevirtual 183, ((82, 1), ([], [0]))) := (kT_29 19).trans rfl
theorem r_29_22 : xT.1 29 22 = some (.iadd, ((0, 0), ([], []))) := (kT_29 22).trans rfl
theorem r_29_23 : xT.1 29 23 = some (.istore_n 1, ((0, 0), ([], []))) := (kT_29 23).trans rfl
theorem r_29_24 : xT.1 29 24 = some (.iinc 2 1, ((0, 0), ([.int (1)], []))) := (kT_29 24).trans rfl
theorem r_29_27 : xT.1 29 27 = some (.goto (-23), ((4, 0), ([], []))) := (kT_29 27).trans rfl
theorem r_29_30 : xT.1 29 30 = some (.iload_n 1, ((0, 0), ([], []))) := (kT_29 30).trans rfl
theorem r_29_31 : xT.1 29 31 = some (.ireturn, ((0, 0), ([], []))) := (kT_29 31).trans rfl
theorem kT_30 (pc : Nat) : xT.1 30 pc = xfind k_30 pc := rfl
theorem r_30_0 : xT.1 30 0 = some (.iconst 0, ((0, 0), ([.int 0], []))) := (kT_30 0).trans rfl
theorem r_30_1 : xT.1 30 1 = some (.istore_n 2, ((0, 0), ([], []))) := (kT_30 1).trans rfl
theorem r_30_2 : xT.1 30 2 = some (.iconst 0, ((0, 0), ([.int 0], []))) := (kT_30 2).trans rfl
theorem r_30_3 : xT.1 30 3 = some (.istore_n 3, ((0, 0), ([], []))) := (kT_30 3).trans rfl
theorem r_30_4 : xT.1 30 4 = some (.iload_n 3, ((0, 0), ([], []))) := (kT_30 4).trans rfl
theorem r_30_5 : xT.1 30 5 = some (.aload_n 0, ((0, 0), ([], []))) := (kT_30 5).trans rfl
theorem r_30_6 : xT.1 30 6 = some (.getfield 36, ((1, 4), ([], []))) := (kT_30 6).trans rfl
theorem r_30_9 : xT.1 30 9 = some (.if_icmp .ge 25, ((34, 0), ([], []))) := (kT_30 9).trans rfl
theorem r_30_12 : xT.1 30 12 = some (.iload_n 2, ((0, 0), ([], []))) := (kT_30 12).trans rfl
theorem r_30_13 : xT.1 30 13 = some (.aload_n 0, ((0, 0), ([], []))) := (kT_30 13).trans rfl
theorem r_30_14 : xT.1 30 14 = some (.getfield 11, ((1, 0), ([], []))) := (kT_30 14).trans rfl
theorem r_30_17 : xT.1 30 17 = some (.iload_n 3, ((0, 0), ([], []))) := (kT_30 17).trans rfl
theorem r_30_18 : xT.1 30 18 = some (.aaload, ((0, 0), ([], []))) := (kT_30 18).trans rfl
theorem r_30_19 : xT.1 30 19 = some (.getfield 172, ((6, 0), ([], []))) := (kT_30 19).trans rfl
theorem r_30_22 : xT.1 30 22 = some (.iload_n 1, ((0, 0), ([], []))) := (kT_30 22).trans rfl
theorem r_30_23 : xT.1 30 23 = some (.invokevirtual 186, ((4, 2), ([], [0]))) := (kT_30 23).trans rfl
theorem r_30_26 : xT.1 30 26 = some (.iadd, ((0, 0), ([], []))) := (kT_30 26).trans rfl
theorem r_30_27 : xT.1 30 27 = some (.istore_n 2, ((0, 0), ([], []))) := (kT_30 27).trans rfl
theorem r_30_28 : xT.1 30 28 = some (.iinc 3 1, ((0, 0), ([.int (1)], []))) := (kT_30 28).trans rfl
theorem r_30_31 : xT.1 30 31 = some (.goto (-27), ((4, 0), ([], []))) := (kT_30 31).trans rfl
theorem r_30_34 : xT.1 30 34 = some (.iload_n 2, ((0, 0), ([], []))) := (kT_30 34).trans rfl
theorem r_30_35 : xT.1 30 35 = some (.ireturn, ((0, 0), ([], []))) := (kT_30 35).trans rfl
theorem kT_31 (pc : Nat) : xT.1 31 pc = xfind k_31 pc := rfl
theorem r_31_0 : xT.1 31 0 = some (.iconst (-1), ((0, 0), ([.int (-1)], []))) := (kT_31 0).trans rfl
theorem r_31_1 : xT.1 31 1 = some (.istore_n 1, ((0, 0), ([], []))) := (kT_31 1).trans rfl
theorem r_31_2 : xT.1 31 2 = some (.iconst 0, ((0, 0), ([.int 0], []))) := (kT_31 2).trans rfl
theorem r_31_3 : xT.1 31 3 = some (.istore_n 2, ((0, 0), ([], []))) := (kT_31 3).trans rfl
theorem r_31_4 : xT.1 31 4 = some (.iconst 0, ((0, 0), ([.int 0], []))) := (kT_31 4).trans rfl
theorem r_31_5 : xT.1 31 5 = some (.istore_n 3, ((0, 0), ([], []))) := (kT_31 5).trans rfl
theorem r_31_6 : xT.1 31 6 = some (.iload_n 3, ((0, 0), ([], []))) := (kT_31 6).trans rfl
theorem r_31_7 : xT.1 31 7 = some (.aload_n 0, ((0, 0), ([], []))) := (kT_31 7).trans rfl
theorem r_31_8 : xT.1 31 8 = some (.getfield 36, ((1, 4), ([], []))) := (kT_31 8).trans rfl
theorem r_31_11 : xT.1 31 11 = some (.if_icmp .ge 54, ((65, 0), ([], []))) := (kT_31 11).trans rfl
theorem r_31_14 : xT.1 31 14 = some (.aload_n 0, ((0, 0), ([], []))) := (kT_31 14).trans rfl
theorem r_31_15 : xT.1 31 15 = some (.getfield 11, ((1, 0), ([], []))) := (kT_31 15).trans rfl
theorem r_31_18 : xT.1 31 18 = some (.iload_n 3, ((0, 0), ([], []))) := (kT_31 18).trans rfl
theorem r_31_19 : xT.1 31 19 = some (.aaload, ((0, 0), ([], []))) := (kT_31 19).trans rfl
theorem r_31_20 : xT.1 31 20 = some (.getfield 172, ((6, 0), ([], []))) := (kT_31 20).trans rfl
theorem r_31_23 : xT.1 31 23 = some (.invokevirtual 189, ((8, 1), ([], [0]))) := (kT_31 23).trans rfl
theorem r_31_26 : xT.1 31 26 = some (.istore 4, ((0, 0), ([], []))) := (kT_31 26).trans rfl
theorem r_31_28 : xT.1 31 28 = some (.aload_n 0, ((0, 0), ([], []))) := (kT_31 28).trans rfl
theorem r_31_29 : xT.1 31 29 = some (.getfield 11, ((1, 0), ([], []))) := (kT_31 29).trans rfl
theorem r_31_32 : xT.1 31 32 = some (.iload_n 3, ((0, 0), ([], []))) := (kT_31 32).trans rfl
theorem r_31_33 : xT.1 31 33 = some (.aaload, ((0, 0), ([], []))) := (kT_31 33).trans rfl
theorem r_31_34 : xT.1 31 34 = some (.getfield 172, ((6, 0), ([], []))) := (kT_31 34).trans rfl
theorem r_31_37 : xT.1 31 37 = some (.invokevirtual 192, ((6, 1), ([], [0]))) := (kT_31 37).trans rfl
theorem r_31_40 : xT.1 31 40 = some (.ifCond .le 19, ((59, 0), ([], []))) := (kT_31 40).trans rfl
theorem r_31_43 : xT.1 31 43 = some (.iload_n 1, ((0, 0), ([], []))) := (kT_31 43).trans rfl
theorem r_31_44 : xT.1 31 44 = some (.iconst (-1), ((0, 0), ([.int (-1)], []))) := (kT_31 44).trans rfl
theorem r_31_45 : xT.1 31 45 = some (.if_icmp .eq 9, ((54, 0), ([], []))) := (kT_31 45).trans rfl
theorem r_31_48 : xT.1 31 48 = some (.iload 4, ((0, 0), ([], []))) := (kT_31 48).trans rfl
theorem r_31_50 : xT.1 31 50 = some (.iload_n 2, ((0, 0), ([], []))) := (kT_31 50).trans rfl
theorem r_31_51 : xT.1 31 51 = some (.if_icmp .ge 8, ((59, 0), ([], []))) := (kT_31 51).trans rfl
theorem r_31_54 : xT.1 31 54 = some (.iload_n 3, ((0, 0), ([], []))) := (kT_31 54).trans rfl
theorem r_31_55 : xT.1 31 55 = some (.istore_n 1, ((0, 0), ([], []))) := (kT_31 55).trans rfl
theorem r_31_56 : xT.1 31 56 = some (.iload 4, ((0, 0), ([], []))) := (kT_31 56).trans rfl
theorem r_31_58 : xT.1 31 58 = some (.istore_n 2, ((0, 0), ([], []))) := (kT_31 58).trans rfl
theorem r_31_59 : xT.1 31 59 = some (.iinc 3 1, ((0, 0), ([.int (1)], []))) := (kT_31 59).trans rfl
theorem r_31_62 : xT.1 31 62 = some (.goto (-56), ((6, 0), ([], []))) := (kT_31 62).trans rfl
theorem r_31_65 : xT.1 31 65 = some (.iload_n 1, ((0, 0), ([], []))) := (kT_31 65).trans rfl
theorem r_31_66 : xT.1 31 66 = some (.ireturn, ((0, 0), ([], []))) := (kT_31 66).trans rfl
theorem kT_32 (pc : Nat) : xT.1 32 pc = xfind k_32 pc := rfl
theorem r_32_0 : xT.1 32 0 = some (.iconst 0, ((0, 0), ([.int 0], []))) := (kT_32 0).trans rfl
theorem r_32_1 : xT.1 32 1 = some (.istore_n 2, ((0, 0), ([], []))) := (kT_32 1).trans rfl
theorem r_32_2 : xT.1 32 2 = some (.iconst 0, ((0, 0), ([.int 0], []))) := (kT_32 2).trans rfl
theorem r_32_3 : xT.1 32 3 = some (.istore_n 3, ((0, 0), ([], []))) := (kT_32 3).trans rfl
theorem r_32_4 : xT.1 32 4 = some (.iload_n 3, ((0, 0), ([], []))) := (kT_32 4).trans rfl
theorem r_32_5 : xT.1 32 5 = some (.aload_n 0, ((0, 0), ([], []))) := (kT_32 5).trans rfl
theorem r_32_6 : xT.1 32 6 = some (.getfield 36, ((1, 4), ([], []))) := (kT_32 6).trans rfl
theorem r_32_9 : xT.1 32 9 = some (.if_icmp .ge 65, ((74, 0), ([], []))) := (kT_32 9).trans rfl
theorem r_32_12 : xT.1 32 12 = some (.iload_n 3, ((0, 0), ([], []))) := (kT_32 12).trans rfl
theorem r_32_13 : xT.1 32 13 = some (.iload_n 1, ((0, 0), ([], []))) := (kT_32 13).trans rfl
theorem r_32_14 : xT.1 32 14 = some (.if_icmp .ge 29, ((43, 0), ([], []))) := (kT_32 14).trans rfl
theorem r_32_17 : xT.1 32 17 = some (.aload_n 0, ((0, 0), ([], []))) := (kT_32 17).trans rfl
theorem r_32_18 : xT.1 32 18 = some (.getfield 11, ((1, 0), ([], []))) := (kT_32 18).trans rfl
theorem r_32_21 : xT.1 32 21 = some (.iload_n 1, ((0, 0), ([], []))) := (kT_32 21).trans rfl
theorem r_32_22 : xT.1 32 22 = some (.aaload, ((0, 0), ([], []))) := (kT_32 22).trans rfl
theorem r_32_23 : xT.1 32 23 = some (.aload_n 0, ((0, 0), ([], []))) := (kT_32 23).trans rfl
theorem r_32_24 : xT.1 32 24 = some (.getfield 11, ((1, 0), ([], []))) := (kT_32 24).trans rfl
theorem r_32_27 : xT.1 32 27 = some (.iload_n 3, ((0, 0), ([], []))) := (kT_32 27).trans rfl
theorem r_32_28 : xT.1 32 28 = some (.aaload, ((0, 0), ([], []))) := (kT_32 28).trans rfl
theorem r_32_29 : xT.1 32 29 = some (.invokevirtual 195, ((74, 2), ([], [0]))) := (kT_32 29).trans rfl
theorem r_32_32 : xT.1 32 32 = some (.ifCond .ne 7, ((39, 0), ([], []))) := (kT_32 32).trans rfl
theorem r_32_35 : xT.1 32 35 = some (.iconst 1, ((0, 0), ([.int 1], []))) := (kT_32 35).trans rfl
theorem r_32_36 : xT.1 32 36 = some (.goto 22, ((58, 0), ([], []))) := (kT_32 36).trans rfl
theorem r_32_39 : xT.1 32 39 = some (.iconst 0, ((0, 0), ([.int 0], []))) := (kT_32 39).trans rfl
theorem r_32_40 : xT.1 32 40 = some (.goto 18, ((58, 0), ([], []))) := (kT_32 40).trans rfl
theorem r_32_43 : xT.1 32 43 = some (.aload_n 0, ((0, 0), ([], []))) := (kT_32 43).trans rfl
theorem r_32_44 : xT.1 32 44 = some (.getfield 11, ((1, 0), ([], []))) := (kT_32 44).trans rfl
theorem r_32_47 : xT.1 32 47 = some (.iload_n 3, ((0, 0), ([], []))) := (kT_32 47).trans rfl
theorem r_32_48 : xT.1 32 48 = some (.aaload, ((0, 0), ([], []))) := (kT_32 48).trans rfl
theorem r_32_49 : xT.1 32 49 = some (.aload_n 0, ((0, 0), ([], []))) := (kT_32 49).trans rfl
theorem r_32_50 : xT.1 32 50 = some (.getfield 11, ((1, 0), ([], []))) := (kT_32 50).trans rfl
theorem r_32_53 : xT.1 32 53 = some (.iload_n 1, ((0, 0), ([], []))) := (kT_32 53).trans rfl
theorem r_32_54 : xT.1 32 54 = some (.aaload, ((0, 0), ([], []))) := (kT_32 54).trans rfl
theorem r_32_55 : xT.1 32 55 = some (.invokevirtual 195, ((74, 2), ([], [0]))) := (kT_32 55).trans rfl
theorem r_32_58 : xT.1 32 58 = some (.istore 4, ((0, 0), ([], []))) := (kT_32 58).trans rfl
theorem r_32_60 : xT.1 32 60 = some (.iload 4, ((0, 0), ([], []))) := (kT_32 60).trans rfl
theorem r_32_62 : xT.1 32 62 = some (.ifCond .eq 6, ((68, 0), ([], []))) := (kT_32 62).trans rfl
theorem r_32_65 : xT.1 32 65 = some (.iinc 2 1, ((0, 0), ([.int (1)], []))) := (kT_32 65).trans rfl
theorem r_32_68 : xT.1 32 68 = some (.iinc 3 1, ((0, 0), ([.int (1)], []))) := (kT_32 68).trans rfl
theorem r_32_71 : xT.1 32 71 = some (.goto (-67), ((4, 0), ([], []))) := (kT_32 71).trans rfl
theorem r_32_74 : xT.1 32 74 = some (.iload_n 2, ((0, 0), ([], []))) := (kT_32 74).trans rfl
theorem r_32_75 : xT.1 32 75 = some (.ireturn, ((0, 0), ([], []))) := (kT_32 75).trans rfl
theorem kT_33 (pc : Nat) : xT.1 33 pc = xfind k_33 pc := rfl
theorem r_33_0 : xT.1 33 0 = some (.aload_n 0, ((0, 0), ([], []))) := (kT_33 0).trans rfl
theorem r_33_1 : xT.1 33 1 = some (.getfield 49, ((1, 8), ([], []))) := (kT_33 1).trans rfl
theorem r_33_4 : xT.1 33 4 = some (.aload_n 0, ((0, 0), ([], []))) := (kT_33 4).trans rfl
theorem r_33_5 : xT.1 33 5 = some (.invokevirtual 199, ((29, 1), ([], [0]))) := (kT_33 5).trans rfl
theorem r_33_8 : xT.1 33 8 = some (.iadd, ((0, 0), ([], []))) := (kT_33 8).trans rfl
theorem r_33_9 : xT.1 33 9 = some (.istore_n 1, ((0, 0), ([], []))) := (kT_33 9).trans rfl
theorem r_33_10 : xT.1 33 10 = some (.iconst 0, ((0, 0), ([.int 0], []))) := (kT_33 10).trans rfl
theorem r_33_11 : xT.1 33 11 = some (.istore_n 2, ((0, 0), ([], []))) := (kT_33 11).trans rfl
theorem r_33_12 : xT.1 33 12 = some (.iload_n 2, ((0, 0), ([], []))) := (kT_33 12).trans rfl
theorem r_33_13 : xT.1 33 13 = some (.aload_n 0, ((0, 0), ([], []))) := (kT_33 13).trans rfl
theorem r_33_14 : xT.1 33 14 = some (.getfield 36, ((1, 4), ([], []))) := (kT_33 14).trans rfl
theorem r_33_17 : xT.1 33 17 = some (.if_icmp .ge 21, ((38, 0), ([], []))) := (kT_33 17).trans rfl
theorem r_33_20 : xT.1 33 20 = some (.iload_n 1, ((0, 0), ([], []))) := (kT_33 20).trans rfl
theorem r_33_21 : xT.1 33 21 = some (.aload_n 0, ((0, 0), ([], []))) := (kT_33 21).trans rfl
theorem r_33_22 : xT.1 33 22 = some (.getfield 11, ((1, 0), ([], []))) := (kT_33 22).trans rfl
theorem r_33_25 : xT.1 33 25 = some (.iload_n 2, ((0, 0), ([], []))) := (kT_33 25).trans rfl
theorem r_33_26 : xT.1 33 26 = some (.aaload, ((0, 0), ([], []))) := (kT_33 26).trans rfl
theorem r_33_27 : xT.1 33 27 = some (.getfield 119, ((6, 1), ([], []))) := (kT_33 27).trans rfl
theorem r_33_30 : xT.1 33 30 = some (.iadd, ((0, 0), ([], []))) := (kT_33 30).trans rfl
theorem r_33_31 : xT.1 33 31 = some (.istore_n 1, ((0, 0), ([], []))) := (kT_33 31).trans rfl
theorem r_33_32 : xT.1 33 32 = some (.iinc 2 1, ((0, 0), ([.int (1)], []))) := (kT_33 32).trans rfl
theorem r_33_35 : xT.1 33 35 = some (.goto (-23), ((12, 0), ([], []))) := (kT_33 35).trans rfl
theorem r_33_38 : xT.1 33 38 = some (.iload_n 1, ((0, 0), ([], []))) := (kT_33 38).trans rfl
theorem r_33_39 : xT.1 33 39 = some (.bipush 100, ((0, 0), ([.int 100], []))) := (kT_33 39).trans rfl
theorem r_33_41 : xT.1 33 41 = some (.aload_n 0, ((0, 0), ([], []))) := (kT_33 41).trans rfl
theorem r_33_42 : xT.1 33 42 = some (.getfield 36, ((1, 4), ([], []))) := (kT_33 42).trans rfl
theorem r_33_45 : xT.1 33 45 = some (.imul, ((0, 0), ([], []))) := (kT_33 45).trans rfl
theorem r_33_46 : xT.1 33 46 = some (.if_icmp .ne 7, ((53, 0), ([], []))) := (kT_33 46).trans rfl
theorem r_33_49 : xT.1 33 49 = some (.iconst 1, ((0, 0), ([.int 1], []))) := (kT_33 49).trans rfl
theorem r_33_50 : xT.1 33 50 = some (.goto 4, ((54, 0), ([], []))) := (kT_33 50).trans rfl
theorem r_33_53 : xT.1 33 53 = some (.iconst 0, ((0, 0), ([.int 0], []))) := (kT_33 53).trans rfl
theorem r_33_54 : xT.1 33 54 = some (.ireturn, ((0, 0), ([], []))) := (kT_33 54).trans rfl
theorem kT_34 (pc : Nat) : xT.1 34 pc = xfind k_34 pc := rfl
theorem r_34_0 : xT.1 34 0 = some (.iconst 1, ((0, 0), ([.int 1], []))) := (kT_34 0).trans rfl
theorem r_34_1 : xT.1 34 1 = some (.istore_n 1, ((0, 0), ([], []))) := (kT_34 1).trans rfl
theorem r_34_2 : xT.1 34 2 = some (.iload_n 1, ((0, 0), ([], []))) := (kT_34 2).trans rfl
theorem r_34_3 : xT.1 34 3 = some (.bipush 9, ((0, 0), ([.int 9], []))) := (kT_34 3).trans rfl
theorem r_34_5 : xT.1 34 5 = some (.if_icmp .gt 27, ((32, 0), ([], []))) := (kT_34 5).trans rfl
theorem r_34_8 : xT.1 34 8 = some (.aload_n 0, ((0, 0), ([], []))) := (kT_34 8).trans rfl
theorem r_34_9 : xT.1 34 9 = some (.getfield 26, ((1, 2), ([], []))) := (kT_34 9).trans rfl
theorem r_34_12 : xT.1 34 12 = some (.iload_n 1, ((0, 0), ([], []))) := (kT_34 12).trans rfl
theorem r_34_13 : xT.1 34 13 = some (.invokevirtual 186, ((4, 2), ([], [0]))) := (kT_34 13).trans rfl
theorem r_34_16 : xT.1 34 16 = some (.aload_n 0, ((0, 0), ([], []))) := (kT_34 16).trans rfl
theorem r_34_17 : xT.1 34 17 = some (.iload_n 1, ((0, 0), ([], []))) := (kT_34 17).trans rfl
theorem r_34_18 : xT.1 34 18 = some (.invokevirtual 200, ((30, 2), ([], [0]))) := (kT_34 18).trans rfl
theorem r_34_21 : xT.1 34 21 = some (.if_icmp .eq 5, ((26, 0), ([], []))) := (kT_34 21).trans rfl
theorem r_34_24 : xT.1 34 24 = some (.iconst 0, ((0, 0), ([.int 0], []))) := (kT_34 24).trans rfl
theorem r_34_25 : xT.1 34 25 = some (.ireturn, ((0, 0), ([], []))) := (kT_34 25).trans rfl
theorem r_34_26 : xT.1 34 26 = some (.iinc 1 1, ((0, 0), ([.int (1)], []))) := (kT_34 26).trans rfl
theorem r_34_29 : xT.1 34 29 = some (.goto (-27), ((2, 0), ([], []))) := (kT_34 29).trans rfl
theorem r_34_32 : xT.1 34 32 = some (.iconst 1, ((0, 0), ([.int 1], []))) := (kT_34 32).trans rfl
theorem r_34_33 : xT.1 34 33 = some (.ireturn, ((0, 0), ([], []))) := (kT_34 33).trans rfl
theorem kT_35 (pc : Nat) : xT.1 35 pc = xfind k_35 pc := rfl
theorem r_35_0 : xT.1 35 0 = some (.aload_n 0, ((0, 0), ([], []))) := (kT_35 0).trans rfl
theorem r_35_1 : xT.1 35 1 = some (.invokespecial 3, ((0, 1), ([], [5]))) := (kT_35 1).trans rfl
theorem r_35_4 : xT.1 35 4 = some (.aload_n 0, ((0, 0), ([], []))) := (kT_35 4).trans rfl
theorem r_35_5 : xT.1 35 5 = some (.bipush 60, ((0, 0), ([.int 60], []))) := (kT_35 5).trans rfl
theorem r_35_7 : xT.1 35 7 = some (.newarray .char, ((0, 0), ([], []))) := (kT_35 7).trans rfl
theorem r_35_9 : xT.1 35 9 = some (.putfield 9, ((2, 0), ([], [2]))) := (kT_35 9).trans rfl
theorem r_35_12 : xT.1 35 12 = some (.aload_n 0, ((0, 0), ([], []))) := (kT_35 12).trans rfl
theorem r_35_13 : xT.1 35 13 = some (.bipush 6, ((0, 0), ([.int 6], []))) := (kT_35 13).trans rfl
theorem r_35_15 : xT.1 35 15 = some (.newarray .int, ((0, 0), ([], []))) := (kT_35 15).trans rfl
theorem r_35_17 : xT.1 35 17 = some (.putfield 15, ((2, 1), ([], [2]))) := (kT_35 17).trans rfl
theorem r_35_20 : xT.1 35 20 = some (.return_, ((0, 0), ([], []))) := (kT_35 20).trans rfl
theorem kT_36 (pc : Nat) : xT.1 36 pc = xfind k_36 pc := rfl
theorem r_36_0 : xT.1 36 0 = some (.aload_n 0, ((0, 0), ([], []))) := (kT_36 0).trans rfl
theorem r_36_1 : xT.1 36 1 = some (.getfield 19, ((2, 2), ([], []))) := (kT_36 1).trans rfl
theorem r_36_4 : xT.1 36 4 = some (.bipush 60, ((0, 0), ([.int 60], []))) := (kT_36 4).trans rfl
theorem r_36_6 : xT.1 36 6 = some (.if_icmp .lt 7, ((13, 0), ([], []))) := (kT_36 6).trans rfl
theorem r_36_9 : xT.1 36 9 = some (.iconst 1, ((0, 0), ([.int 1], []))) := (kT_36 9).trans rfl
theorem r_36_10 : xT.1 36 10 = some (.goto 4, ((14, 0), ([], []))) := (kT_36 10).trans rfl
theorem r_36_13 : xT.1 36 13 = some (.iconst 0, ((0, 0), ([.int 0], []))) := (kT_36 13).trans rfl
theorem r_36_14 : xT.1 36 14 = some (.ireturn, ((0, 0), ([], []))) := (kT_36 14).trans rfl
theorem kT_37 (pc : Nat) : xT.1 37 pc = xfind k_37 pc := rfl
theorem r_37_0 : xT.1 37 0 = some (.aload_n 0, ((0, 0), ([], []))) := (kT_37 0).trans rfl
theorem r_37_1 : xT.1 37 1 = some (.getfield 9, ((2, 0), ([], []))) := (kT_37 1).trans rfl
theorem r_37_4 : xT.1 37 4 = some (.aload_n 0, ((0, 0), ([], []))) := (kT_37 4).trans rfl
theorem r_37_5 : xT.1 37 5 = some (.getfield 19, ((2, 2), ([], []))) := (kT_37 5).trans rfl
theorem r_37_8 : xT.1 37 8 = some (.iload_n 1, ((0, 0), ([], []))) := (kT_37 8).trans rfl
theorem r_37_9 : xT.1 37 9 = some (.castore, ((0, 0), ([], []))) := (kT_37 9).trans rfl
theorem r_37_10 : xT.1 37 10 = some (.aload_n 0, ((0, 0), ([], []))) := (kT_37 10).trans rfl
theorem r_37_11 : xT.1 37 11 = some (.dup, ((0, 0), ([], []))) := (kT_37 11).trans rfl
theorem r_37_12 : xT.1 37 12 = some (.getfield 19, ((2, 2), ([], []))) := (kT_37 12).trans rfl
theorem r_37_15 : xT.1 37 15 = some (.iconst 1, ((0, 0), ([.int 1], []))) := (kT_37 15).trans rfl
theorem r_37_16 : xT.1 37 16 = some (.iadd, ((0, 0), ([], []))) := (kT_37 16).trans rfl
theorem r_37_17 : xT.1 37 17 = some (.putfield 19, ((2, 2), ([], [0]))) := (kT_37 17).trans rfl
theorem r_37_20 : xT.1 37 20 = some (.aload_n 0, ((0, 0), ([], []))) := (kT_37 20).trans rfl
theorem r_37_21 : xT.1 37 21 = some (.getfield 19, ((2, 2), ([], []))) := (kT_37 21).trans rfl
theorem r_37_24 : xT.1 37 24 = some (.ireturn, ((0, 0), ([], []))) := (kT_37 24).trans rfl
theorem kT_38 (pc : Nat) : xT.1 38 pc = xfind k_38 pc := rfl
theorem r_38_0 : xT.1 38 0 = some (.aload_n 0, ((0, 0), ([], []))) := (kT_38 0).trans rfl
theorem r_38_1 : xT.1 38 1 = some (.iconst 0, ((0, 0), ([.int 0], []))) := (kT_38 1).trans rfl
theorem r_38_2 : xT.1 38 2 = some (.putfield 19, ((2, 2), ([], [0]))) := (kT_38 2).trans rfl
theorem r_38_5 : xT.1 38 5 = some (.return_, ((0, 0), ([], []))) := (kT_38 5).trans rfl
theorem kT_39 (pc : Nat) : xT.1 39 pc = xfind k_39 pc := rfl
theorem r_39_0 : xT.1 39 0 = some (.aload_n 0, ((0, 0), ([], []))) := (kT_39 0).trans rfl
theorem r_39_1 : xT.1 39 1 = some (.iconst 0, ((0, 0), ([.int 0], []))) := (kT_39 1).trans rfl
theorem r_39_2 : xT.1 39 2 = some (.putfield 23, ((2, 3), ([], [0]))) := (kT_39 2).trans rfl
theorem r_39_5 : xT.1 39 5 = some (.return_, ((0, 0), ([], []))) := (kT_39 5).trans rfl
theorem kT_40 (pc : Nat) : xT.1 40 pc = xfind k_40 pc := rfl
theorem r_40_0 : xT.1 40 0 = some (.aload_n 0, ((0, 0), ([], []))) := (kT_40 0).trans rfl
theorem r_40_1 : xT.1 40 1 = some (.getfield 23, ((2, 3), ([], []))) := (kT_40 1).trans rfl
theorem r_40_4 : xT.1 40 4 = some (.ireturn, ((0, 0), ([], []))) := (kT_40 4).trans rfl
theorem kT_41 (pc : Nat) : xT.1 41 pc = xfind k_41 pc := rfl
theorem r_41_0 : xT.1 41 0 = some (.iload_n 1, ((0, 0), ([], []))) := (kT_41 0).trans rfl
theorem r_41_1 : xT.1 41 1 = some (.ifCond .lt 20, ((21, 0), ([], []))) := (kT_41 1).trans rfl
theorem r_41_4 : xT.1 41 4 = some (.iload_n 1, ((0, 0), ([], []))) := (kT_41 4).trans rfl
theorem r_41_5 : xT.1 41 5 = some (.aload_n 0, ((0, 0), ([], []))) := (kT_41 5).trans rfl
theorem r_41_6 : xT.1 41 6 = some (.getfield 26, ((2, 4), ([], []))) := (kT_41 6).trans rfl
theorem r_41_9 : xT.1 41 9 = some (.if_icmp .ge 12, ((21, 0), ([], []))) := (kT_41 9).trans rfl
theorem r_41_12 : xT.1 41 12 = some (.aload_n 0, ((0, 0), ([], []))) := (kT_41 12).trans rfl
theorem r_41_13 : xT.1 41 13 = some (.getfield 15, ((2, 1), ([], []))) := (kT_41 13).trans rfl
theorem r_41_16 : xT.1 41 16 = some (.iload_n 1, ((0, 0), ([], []))) := (kT_41 16).trans rfl
theorem r_41_17 : xT.1 41 17 = some (.iaload, ((0, 0), ([], []))) := (kT_41 17).trans rfl
theorem r_41_18 : xT.1 41 18 = some (.goto 4, ((22, 0), ([], []))) := (kT_41 18).trans rfl
theorem r_41_21 : xT.1 41 21 = some (.iconst 0, ((0, 0), ([.int 0], []))) := (kT_41 21).trans rfl
theorem r_41_22 : xT.1 41 22 = some (.ireturn, ((0, 0), ([], []))) := (kT_41 22).trans rfl
theorem kT_42 (pc : Nat) : xT.1 42 pc = xfind k_42 pc := rfl
theorem r_42_0 : xT.1 42 0 = some (.aload_n 0, ((0, 0), ([], []))) := (kT_42 0).trans rfl
theorem r_42_1 : xT.1 42 1 = some (.invokevirtual 29, ((39, 1), ([], [0]))) := (kT_42 1).trans rfl
theorem r_42_4 : xT.1 42 4 = some (.iconst 1, ((0, 0), ([.int 1], []))) := (kT_42 4).trans rfl
theorem r_42_5 : xT.1 42 5 = some (.istore_n 1, ((0, 0), ([], []))) := (kT_42 5).trans rfl
theorem r_42_6 : xT.1 42 6 = some (.iload_n 1, ((0, 0), ([], []))) := (kT_42 6).trans rfl
theorem r_42_7 : xT.1 42 7 = some (.bipush 60, ((0, 0), ([.int 60], []))) := (kT_42 7).trans rfl
theorem r_42_9 : xT.1 42 9 = some (.if_icmp .gt 42, ((51, 0), ([], []))) := (kT_42 9).trans rfl
theorem r_42_12 : xT.1 42 12 = some (.aload_n 0, ((0, 0), ([], []))) := (kT_42 12).trans rfl
theorem r_42_13 : xT.1 42 13 = some (.invokevirtual 32, ((43, 1), ([], [0]))) := (kT_42 13).trans rfl
theorem r_42_16 : xT.1 42 16 = some (.ifnonnull 5, ((21, 0), ([], []))) := (kT_42 16).trans rfl
theorem r_42_19 : xT.1 42 19 = some (.iconst (-1), ((0, 0), ([.int (-1)], []))) := (kT_42 19).trans rfl
theorem r_42_20 : xT.1 42 20 = some (.ireturn, ((0, 0), ([], []))) := (kT_42 20).trans rfl
theorem r_42_21 : xT.1 42 21 = some (.aload_n 0, ((0, 0), ([], []))) := (kT_42 21).trans rfl
theorem r_42_22 : xT.1 42 22 = some (.getfield 23, ((2, 3), ([], []))) := (kT_42 22).trans rfl
theorem r_42_25 : xT.1 42 25 = some (.aload_n 0, ((0, 0), ([], []))) := (kT_42 25).trans rfl
theorem r_42_26 : xT.1 42 26 = some (.getfield 19, ((2, 2), ([], []))) := (kT_42 26).trans rfl
theorem r_42_29 : xT.1 42 29 = some (.if_icmp .ne 5, ((34, 0), ([], []))) := (kT_42 29).trans rfl
theorem r_42_32 : xT.1 42 32 = some (.iload_n 1, ((0, 0), ([], []))) := (kT_42 32).trans rfl
theorem r_42_33 : xT.1 42 33 = some (.ireturn, ((0, 0), ([], []))) := (kT_42 33).trans rfl
theorem r_42_34 : xT.1 42 34 = some (.aload_n 0, ((0, 0), ([], []))) := (kT_42 34).trans rfl
theorem r_42_35 : xT.1 42 35 = some (.bipush 59, ((0, 0), ([.int 59], []))) := (kT_42 35).trans rfl
theorem r_42_37 : xT.1 42 37 = some (.invokevirtual 36, ((44, 2), ([], [0]))) := (kT_42 37).trans rfl
theorem r_42_40 : xT.1 42 40 = some (.ifCond .ne 5, ((45, 0), ([], []))) := (kT_42 40).trans rfl
theorem r_42_43 : xT.1 42 43 = some (.iconst (-1), ((0, 0), ([.int (-1)], []))) := (kT_42 43).trans rfl
theorem r_42_44 : xT.1 42 44 = some (.ireturn, ((0, 0), ([], []))) := (kT_42 44).trans rfl
theorem r_42_45 : xT.1 42 45 = some (.iinc 1 1, ((0, 0), ([.int (1)], []))) := (kT_42 45).trans rfl
theorem r_42_48 : xT.1 42 48 = some (.goto (-42), ((6, 0), ([], []))) := (kT_42 48).trans rfl
theorem r_42_51 : xT.1 42 51 = some (.iconst (-1), ((0, 0), ([.int (-1)], []))) := (kT_42 51).trans rfl
theorem r_42_52 : xT.1 42 52 = some (.ireturn, ((0, 0), ([], []))) := (kT_42 52).trans rfl
theorem kT_43 (pc : Nat) : xT.1 43 pc = xfind k_43 pc := rfl
theorem r_43_0 : xT.1 43 0 = some (.aload_n 0, ((0, 0), ([], []))) := (kT_43 0).trans rfl
theorem r_43_1 : xT.1 43 1 = some (.getfield 23, ((2, 3), ([], []))) := (kT_43 1).trans rfl
theorem r_43_4 : xT.1 43 4 = some (.istore_n 1, ((0, 0), ([], []))) := (kT_43 4).trans rfl
theorem r_43_5 : xT.1 43 5 = some (.iload_n 1, ((0, 0), ([], []))) := (kT_43 5).trans rfl
theorem r_43_6 : xT.1 43 6 = some (.istore_n 2, ((0, 0), ([], []))) := (kT_43 6).trans rfl
theorem r_43_7 : xT.1 43 7 = some (.iconst 0, ((0, 0), ([.int 0], []))) := (kT_43 7).trans rfl
theorem r_43_8 : xT.1 43 8 = some (.istore_n 3, ((0, 0), ([], []))) := (kT_43 8).trans rfl
theorem r_43_9 : xT.1 43 9 = some (.iload_n 3, ((0, 0), ([], []))) := (kT_43 9).trans rfl
theorem r_43_10 : xT.1 43 10 = some (.getstatic 40, ((0, 0), ([.ref 15], []))) := (kT_43 10).trans rfl
theorem r_43_13 : xT.1 43 13 = some (.arraylength, ((0, 0), ([], []))) := (kT_43 13).trans rfl
theorem r_43_14 : xT.1 43 14 = some (.if_icmp .ge 44, ((58, 0), ([], []))) := (kT_43 14).trans rfl
theorem r_43_17 : xT.1 43 17 = some (.aload_n 0, ((0, 0), ([], []))) := (kT_43 17).trans rfl
theorem r_43_18 : xT.1 43 18 = some (.iload_n 1, ((0, 0), ([], []))) := (kT_43 18).trans rfl
theorem r_43_19 : xT.1 43 19 = some (.putfield 23, ((2, 3), ([], [0]))) := (kT_43 19).trans rfl
theorem r_43_22 : xT.1 43 22 = some (.aload_n 0, ((0, 0), ([], []))) := (kT_43 22).trans rfl
theorem r_43_23 : xT.1 43 23 = some (.getstatic 40, ((0, 0), ([.ref 15], []))) := (kT_43 23).trans rfl
theorem r_43_26 : xT.1 43 26 = some (.iload_n 3, ((0, 0), ([], []))) := (kT_43 26).trans rfl
theorem r_43_27 : xT.1 43 27 = some (.aaload, ((0, 0), ([], []))) := (kT_43 27).trans rfl
theorem r_43_28 : xT.1 43 28 = some (.getfield 44, ((10, 1), ([], [4]))) := (kT_43 28).trans rfl
theorem r_43_31 : xT.1 43 31 = some (.invokevirtual 50, ((45, 2), ([], [0]))) := (kT_43 31).trans rfl
theorem r_43_34 : xT.1 43 34 = some (.ifCond .eq 9, ((43, 0), ([], []))) := (kT_43 34).trans rfl
theorem r_43_37 : xT.1 43 37 = some (.getstatic 40, ((0, 0), ([.ref 15], []))) := (kT_43 37).trans rfl
theorem r_43_40 : xT.1 43 40 = some (.iload_n 3, ((0, 0), ([], []))) := (kT_43 40).trans rfl
theorem r_43_41 : xT.1 43 41 = some (.aaload, ((0, 0), ([], []))) := (kT_43 41).trans rfl
theorem r_43_42 : xT.1 43 42 = some (.areturn, ((0, 0), ([], []))) := (kT_43 42).trans rfl
theorem r_43_43 : xT.1 43 43 = some (.iload_n 2, ((0, 0), ([], []))) := (kT_43 43).trans rfl
theorem r_43_44 : xT.1 43 44 = some (.aload_n 0, ((0, 0), ([], []))) := (kT_43 44).trans rfl
theorem r_43_45 : xT.1 43 45 = some (.getfield 23, ((2, 3), ([], []))) := (kT_43 45).trans rfl
theorem r_43_48 : xT.1 43 48 = some (.invokestatic 54, ((20, 2), ([], [4]))) := (kT_43 48).trans rfl
theorem r_43_51 : xT.1 43 51 = some (.istore_n 2, ((0, 0), ([], []))) := (kT_43 51).trans rfl
theorem r_43_52 : xT.1 43 52 = some (.iinc 3 1, ((0, 0), ([.int (1)], []))) := (kT_43 52).trans rfl
theorem r_43_55 : xT.1 43 55 = some (.goto (-46), ((9, 0), ([], []))) := (kT_43 55).trans rfl
theorem r_43_58 : xT.1 43 58 = some (.aload_n 0, ((0, 0), ([], []))) := (kT_43 58).trans rfl
theorem r_43_59 : xT.1 43 59 = some (.iload_n 2, ((0, 0), ([], []))) := (kT_43 59).trans rfl
theorem r_43_60 : xT.1 43 60 = some (.putfield 23, ((2, 3), ([], [0]))) := (kT_43 60).trans rfl
theorem r_43_63 : xT.1 43 63 = some (.aconst_null, ((0, 0), ([], []))) := (kT_43 63).trans rfl
theorem r_43_64 : xT.1 43 64 = some (.areturn, ((0, 0), ([], []))) := (kT_43 64).trans rfl
theorem kT_44 (pc : Nat) : xT.1 44 pc = xfind k_44 pc := rfl
theorem r_44_0 : xT.1 44 0 = some (.aload_n 0, ((0, 0), ([], []))) := (kT_44 0).trans rfl
theorem r_44_1 : xT.1 44 1 = some (.getfield 23, ((2, 3), ([], []))) := (kT_44 1).trans rfl
theorem r_44_4 : xT.1 44 4 = some (.aload_n 0, ((0, 0), ([], []))) := (kT_44 4).trans rfl
theorem r_44_5 : xT.1 44 5 = some (.getfield 19, ((2, 2), ([], []))) := (kT_44 5).trans rfl
theorem r_44_8 : xT.1 44 8 = some (.if_icmp .ge 16, ((24, 0), ([], []))) := (kT_44 8).trans rfl
theorem r_44_11 : xT.1 44 11 = some (.aload_n 0, ((0, 0), ([], []))) := (kT_44 11).trans rfl
theorem r_44_12 : xT.1 44 12 = some (.getfield 9, ((2, 0), ([], []))) := (kT_44 12).trans rfl
theorem r_44_15 : xT.1 44 15 = some (.aload_n 0, ((0, 0), ([], []))) := (kT_44 15).trans rfl
theorem r_44_16 : xT.1 44 16 = some (.getfield 23, ((2, 3), ([], []))) := (kT_44 16).trans rfl
theorem r_44_19 : xT.1 44 19 = some (.caload, ((0, 0), ([], []))) := (kT_44 19).trans rfl
theorem r_44_20 : xT.1 44 20 = some (.iload_n 1, ((0, 0), ([], []))) := (kT_44 20).trans rfl
theorem r_44_21 : xT.1 44 21 = some (.if_icmp .eq 5, ((26, 0), ([], []))) := (kT_44 21).trans rfl
theorem r_44_24 : xT.1 44 24 = some (.iconst 0, ((0, 0), ([.int 0], []))) := (kT_44 24).trans rfl
theorem r_44_25 : xT.1 44 25 = some (.ireturn, ((0, 0), ([], []))) := (kT_44 25).trans rfl
theorem r_44_26 : xT.1 44 26 = some (.aload_n 0, ((0, 0), ([], []))) := (kT_44 26).trans rfl
theorem r_44_27 : xT.1 44 27 = some (.dup, ((0, 0), ([], []))) := (kT_44 27).trans rfl
theorem r_44_28 : xT.1 44 28 = some (.getfield 23, ((2, 3), ([], []))) := (kT_44 28).trans rfl
theorem r_44_31 : xT.1 44 31 = some (.iconst 1, ((0, 0), ([.int 1], []))) := (kT_44 31).trans rfl
theorem r_44_32 : xT.1 44 32 = some (.iadd, ((0, 0), ([], []))) := (kT_44 32).trans rfl
theorem r_44_33 : xT.1 44 33 = some (.putfield 23, ((2, 3), ([], [0]))) := (kT_44 33).trans rfl
theorem r_44_36 : xT.1 44 36 = some (.iconst 1, ((0, 0), ([.int 1], []))) := (kT_44 36).trans rfl
theorem r_44_37 : xT.1 44 37 = some (.ireturn, ((0, 0), ([], []))) := (kT_44 37).trans rfl
theorem kT_45 (pc : Nat) : xT.1 45 pc = xfind k_45 pc := rfl
theorem r_45_0 : xT.1 45 0 = some (.aload_n 0, ((0, 0), ([], []))) := (kT_45 0).trans rfl
theorem r_45_1 : xT.1 45 1 = some (.iconst 0, ((0, 0), ([.int 0], []))) := (kT_45 1).trans rfl
theorem r_45_2 : xT.1 45 2 = some (.putfield 26, ((2, 4), ([], [0]))) := (kT_45 2).trans rfl
theorem r_45_5 : xT.1 45 5 = some (.iconst 0, ((0, 0), ([.int 0], []))) := (kT_45 5).trans rfl
theorem r_45_6 : xT.1 45 6 = some (.istore_n 2, ((0, 0), ([], []))) := (kT_45 6).trans rfl
theorem r_45_7 : xT.1 45 7 = some (.iload_n 2, ((0, 0), ([], []))) := (kT_45 7).trans rfl
theorem r_45_8 : xT.1 45 8 = some (.aload_n 1, ((0, 0), ([], []))) := (kT_45 8).trans rfl
theorem r_45_9 : xT.1 45 9 = some (.invokevirtual 60, ((312, 1), ([], [0]))) := (kT_45 9).trans rfl
theorem r_45_12 : xT.1 45 12 = some (.if_icmp .ge 47, ((59, 0), ([], []))) := (kT_45 12).trans rfl
theorem r_45_15 : xT.1 45 15 = some (.aload_n 1, ((0, 0), ([], []))) := (kT_45 15).trans rfl
theorem r_45_16 : xT.1 45 16 = some (.iload_n 2, ((0, 0), ([], []))) := (kT_45 16).trans rfl
theorem r_45_17 : xT.1 45 17 = some (.invokevirtual 65, ((313, 2), ([], [0]))) := (kT_45 17).trans rfl
theorem r_45_20 : xT.1 45 20 = some (.istore_n 3, ((0, 0), ([], []))) := (kT_45 20).trans rfl
theorem r_45_21 : xT.1 45 21 = some (.iload_n 3, ((0, 0), ([], []))) := (kT_45 21).trans rfl
theorem r_45_22 : xT.1 45 22 = some (.invokestatic 69, ((47, 1), ([], [1]))) := (kT_45 22).trans rfl
theorem r_45_25 : xT.1 45 25 = some (.ifCond .eq 14, ((39, 0), ([], []))) := (kT_45 25).trans rfl
theorem r_45_28 : xT.1 45 28 = some (.aload_n 0, ((0, 0), ([], []))) := (kT_45 28).trans rfl
theorem r_45_29 : xT.1 45 29 = some (.iload_n 3, ((0, 0), ([], []))) := (kT_45 29).trans rfl
theorem r_45_30 : xT.1 45 30 = some (.bipush 48, ((0, 0), ([.int 48], []))) := (kT_45 30).trans rfl
theorem r_45_32 : xT.1 45 32 = some (.isub, ((0, 0), ([], []))) := (kT_45 32).trans rfl
theorem r_45_33 : xT.1 45 33 = some (.invokevirtual 72, ((46, 2), ([], [0]))) := (kT_45 33).trans rfl
theorem r_45_36 : xT.1 45 36 = some (.goto 8, ((44, 0), ([], []))) := (kT_45 36).trans rfl
theorem r_45_39 : xT.1 45 39 = some (.aload_n 0, ((0, 0), ([], []))) := (kT_45 39).trans rfl
theorem r_45_40 : xT.1 45 40 = some (.iload_n 3, ((0, 0), ([], []))) := (kT_45 40).trans rfl
theorem r_45_41 : xT.1 45 41 = some (.invokevirtual 36, ((44, 2), ([], [0]))) := (kT_45 41).trans rfl
theorem r_45_44 : xT.1 45 44 = some (.istore 4, ((0, 0), ([], []))) := (kT_45 44).trans rfl
theorem r_45_46 : xT.1 45 46 = some (.iload 4, ((0, 0), ([], []))) := (kT_45 46).trans rfl
theorem r_45_48 : xT.1 45 48 = some (.ifCond .ne 5, ((53, 0), ([], []))) := (kT_45 48).trans rfl
theorem r_45_51 : xT.1 45 51 = some (.iconst 0, ((0, 0), ([.int 0], []))) := (kT_45 51).trans rfl
theorem r_45_52 : xT.1 45 52 = some (.ireturn, ((0, 0), ([], []))) := (kT_45 52).trans rfl
theorem r_45_53 : xT.1 45 53 = some (.iinc 2 1, ((0, 0), ([.int (1)], []))) := (kT_45 53).trans rfl
theorem r_45_56 : xT.1 45 56 = some (.goto (-49), ((7, 0), ([], []))) := (kT_45 56).trans rfl
theorem r_45_59 : xT.1 45 59 = some (.iconst 1, ((0, 0), ([.int 1], []))) := (kT_45 59).trans rfl
theorem r_45_60 : xT.1 45 60 = some (.ireturn, ((0, 0), ([], []))) := (kT_45 60).trans rfl
theorem kT_46 (pc : Nat) : xT.1 46 pc = xfind k_46 pc := rfl
theorem r_46_0 : xT.1 46 0 = some (.iconst 0, ((0, 0), ([.int 0], []))) := (kT_46 0).trans rfl
theorem r_46_1 : xT.1 46 1 = some (.istore_n 2, ((0, 0), ([], []))) := (kT_46 1).trans rfl
theorem r_46_2 : xT.1 46 2 = some (.iconst 0, ((0, 0), ([.int 0], []))) := (kT_46 2).trans rfl
theorem r_46_3 : xT.1 46 3 = some (.istore_n 3, ((0, 0), ([], []))) := (kT_46 3).trans rfl
theorem r_46_4 : xT.1 46 4 = some (.iload_n 3, ((0, 0), ([], []))) := (kT_46 4).trans rfl
theorem r_46_5 : xT.1 46 5 = some (.iload_n 1, ((0, 0), ([], []))) := (kT_46 5).trans rfl
theorem r_46_6 : xT.1 46 6 = some (.if_icmp .ge 63, ((69, 0), ([], []))) := (kT_46 6).trans rfl
theorem r_46_9 : xT.1 46 9 = some (.aload_n 0, ((0, 0), ([], []))) := (kT_46 9).trans rfl
theorem r_46_10 : xT.1 46 10 = some (.getfield 23, ((2, 3), ([], []))) := (kT_46 10).trans rfl
theorem r_46_13 : xT.1 46 13 = some (.aload_n 0, ((0, 0), ([], []))) := (kT_46 13).trans rfl
theorem r_46_14 : xT.1 46 14 = some (.getfield 19, ((2, 2), ([], []))) := (kT_46 14).trans rfl
theorem r_46_17 : xT.1 46 17 = some (.if_icmp .ge 52, ((69, 0), ([], []))) := (kT_46 17).trans rfl
theorem r_46_20 : xT.1 46 20 = some (.aload_n 0, ((0, 0), ([], []))) := (kT_46 20).trans rfl
theorem r_46_21 : xT.1 46 21 = some (.getfield 9, ((2, 0), ([], []))) := (kT_46 21).trans rfl
theorem r_46_24 : xT.1 46 24 = some (.aload_n 0, ((0, 0), ([], []))) := (kT_46 24).trans rfl
theorem r_46_25 : xT.1 46 25 = some (.getfield 23, ((2, 3), ([], []))) := (kT_46 25).trans rfl
theorem r_46_28 : xT.1 46 28 = some (.caload, ((0, 0), ([], []))) := (kT_46 28).trans rfl
theorem r_46_29 : xT.1 46 29 = some (.invokestatic 69, ((47, 1), ([], [1]))) := (kT_46 29).trans rfl
theorem r_46_32 : xT.1 46 32 = some (.ifCond .eq 37, ((69, 0), ([], []))) := (kT_46 32).trans rfl
theorem r_46_35 : xT.1 46 35 = some (.iload_n 2, ((0, 0), ([], []))) := (kT_46 35).trans rfl
theorem r_46_36 : xT.1 46 36 = some (.bipush 10, ((0, 0), ([.int 10], []))) := (kT_46 36).trans rfl
theorem r_46_38 : xT.1 46 38 = some (.imul, ((0, 0), ([], []))) := (kT_46 38).trans rfl
theorem r_46_39 : xT.1 46 39 = some (.aload_n 0, ((0, 0), ([], []))) := (kT_46 39).trans rfl
theorem r_46_40 : xT.1 46 40 = some (.getfield 9, ((2, 0), ([], []))) := (kT_46 40).trans rfl
theorem r_46_43 : xT.1 46 43 = some (.aload_n 0, ((0, 0), ([], []))) := (kT_46 43).trans rfl
theorem r_46_44 : xT.1 46 44 = some (.getfield 23, ((2, 3), ([], []))) := (kT_46 44).trans rfl
theorem r_46_47 : xT.1 46 47 = some (.caload, ((0, 0), ([], []))) := (kT_46 47).trans rfl
theorem r_46_48 : xT.1 46 48 = some (.bipush 48, ((0, 0), ([.int 48], []))) := (kT_46 48).trans rfl
theorem r_46_50 : xT.1 46 50 = some (.isub, ((0, 0), ([], []))) := (kT_46 50).trans rfl
theorem r_46_51 : xT.1 46 51 = some (.iadd, ((0, 0), ([], []))) := (kT_46 51).trans rfl
theorem r_46_52 : xT.1 46 52 = some (.istore_n 2, ((0, 0), ([], []))) := (kT_46 52).trans rfl
theorem r_46_53 : xT.1 46 53 = some (.iinc 3 1, ((0, 0), ([.int (1)], []))) := (kT_46 53).trans rfl
theorem r_46_56 : xT.1 46 56 = some (.aload_n 0, ((0, 0), ([], []))) := (kT_46 56).trans rfl
theorem r_46_57 : xT.1 46 57 = some (.dup, ((0, 0), ([], []))) := (kT_46 57).trans rfl
theorem r_46_58 : xT.1 46 58 = some (.getfield 23, ((2, 3), ([], []))) := (kT_46 58).trans rfl
theorem r_46_61 : xT.1 46 61 = some (.iconst 1, ((0, 0), ([.int 1], []))) := (kT_46 61).trans rfl
theorem r_46_62 : xT.1 46 62 = some (.iadd, ((0, 0), ([], []))) := (kT_46 62).trans rfl
theorem r_46_63 : xT.1 46 63 = some (.putfield 23, ((2, 3), ([], [0]))) := (kT_46 63).trans rfl
theorem r_46_66 : xT.1 46 66 = some (.goto (-62), ((4, 0), ([], []))) := (kT_46 66).trans rfl
theorem r_46_69 : xT.1 46 69 = some (.iload_n 3, ((0, 0), ([], []))) := (kT_46 69).trans rfl
theorem r_46_70 : xT.1 46 70 = some (.ifCond .eq 12, ((82, 0), ([], []))) := (kT_46 70).trans rfl
theorem r_46_73 : xT.1 46 73 = some (.aload_n 0, ((0, 0), ([], []))) := (kT_46 73).trans rfl
theorem r_46_74 : xT.1 46 74 = some (.getfield 26, ((2, 4), ([], []))) := (kT_46 74).trans rfl
theorem r_46_77 : xT.1 46 77 = some (.bipush 6, ((0, 0), ([.int 6], []))) := (kT_46 77).trans rfl
theorem r_46_79 : xT.1 46 79 = some (.if_icmp .lt 5, ((84, 0), ([], []))) := (kT_46 79).trans rfl
theorem r_46_82 : xT.1 46 82 = some (.iconst 0, ((0, 0), ([.int 0], []))) := (kT_46 82).trans rfl
theorem r_46_83 : xT.1 46 83 = some (.ireturn, ((0, 0), ([], []))) := (kT_46 83).trans rfl
theorem r_46_84 : xT.1 46 84 = some (.aload_n 0, ((0, 0), ([], []))) := (kT_46 84).trans rfl
theorem r_46_85 : xT.1 46 85 = some (.getfield 15, ((2, 1), ([], []))) := (kT_46 85).trans rfl
theorem r_46_88 : xT.1 46 88 = some (.aload_n 0, ((0, 0), ([], []))) := (kT_46 88).trans rfl
theorem r_46_89 : xT.1 46 89 = some (.getfield 26, ((2, 4), ([], []))) := (kT_46 89).trans rfl
theorem r_46_92 : xT.1 46 92 = some (.iload_n 2, ((0, 0), ([], []))) := (kT_46 92).trans rfl
theorem r_46_93 : xT.1 46 93 = some (.iastore, ((0, 0), ([], []))) := (kT_46 93).trans rfl
theorem r_46_94 : xT.1 46 94 = some (.aload_n 0, ((0, 0), ([], []))) := (kT_46 94).trans rfl
theorem r_46_95 : xT.1 46 95 = some (.dup, ((0, 0), ([], []))) := (kT_46 95).trans rfl
theorem r_46_96 : xT.1 46 96 = some (.getfield 26, ((2, 4), ([], []))) := (kT_46 96).trans rfl
theorem r_46_99 : xT.1 46 99 = some (.iconst 1, ((0, 0), ([.int 1], []))) := (kT_46 99).trans rfl
theorem r_46_100 : xT.1 46 100 = some (.iadd, ((0, 0), ([], []))) := (kT_46 100).trans rfl
theorem r_46_101 : xT.1 46 101 = some (.putfield 26, ((2, 4), ([], [0]))) := (kT_46 101).trans rfl
theorem r_46_104 : xT.1 46 104 = some (.iconst 1, ((0, 0), ([.int 1], []))) := (kT_46 104).trans rfl
theorem r_46_105 : xT.1 46 105 = some (.ireturn, ((0, 0), ([], []))) := (kT_46 105).trans rfl
theorem kT_47 (pc : Nat) : xT.1 47 pc = xfind k_47 pc := rfl
theorem r_47_0 : xT.1 47 0 = some (.iload_n 0, ((0, 0), ([], []))) := (kT_47 0).trans rfl
theorem r_47_1 : xT.1 47 1 = some (.bipush 48, ((0, 0), ([.int 48], []))) := (kT_47 1).trans rfl
theorem r_47_3 : xT.1 47 3 = some (.if_icmp .lt 13, ((16, 0), ([], []))) := (kT_47 3).trans rfl
theorem r_47_6 : xT.1 47 6 = some (.iload_n 0, ((0, 0), ([], []))) := (kT_47 6).trans rfl
theorem r_47_7 : xT.1 47 7 = some (.bipush 57, ((0, 0), ([.int 57], []))) := (kT_47 7).trans rfl
theorem r_47_9 : xT.1 47 9 = some (.if_icmp .gt 7, ((16, 0), ([], []))) := (kT_47 9).trans rfl
theorem r_47_12 : xT.1 47 12 = some (.iconst 1, ((0, 0), ([.int 1], []))) := (kT_47 12).trans rfl
theorem r_47_13 : xT.1 47 13 = some (.goto 4, ((17, 0), ([], []))) := (kT_47 13).trans rfl
theorem r_47_16 : xT.1 47 16 = some (.iconst 0, ((0, 0), ([.int 0], []))) := (kT_47 16).trans rfl
theorem r_47_17 : xT.1 47 17 = some (.ireturn, ((0, 0), ([], []))) := (kT_47 17).trans rfl
theorem kT_48 (pc : Nat) : xT.1 48 pc = xfind k_48 pc := rfl
theorem r_48_0 : xT.1 48 0 = some (.aload_n 0, ((0, 0), ([], []))) := (kT_48 0).trans rfl
theorem r_48_1 : xT.1 48 1 = some (.invokespecial 5, ((0, 1), ([], [5]))) := (kT_48 1).trans rfl
theorem r_48_4 : xT.1 48 4 = some (.aload_n 0, ((0, 0), ([], []))) := (kT_48 4).trans rfl
theorem r_48_5 : xT.1 48 5 = some (.bipush 6, ((0, 0), ([.int 6], []))) := (kT_48 5).trans rfl
theorem r_48_7 : xT.1 48 7 = some (.bipush 16, ((0, 0), ([.int 16], []))) := (kT_48 7).trans rfl
theorem r_48_9 : xT.1 48 9 = some (.multianewarray 11 2, ((0, 0), ([], []))) := (kT_48 9).trans rfl
theorem r_48_13 : xT.1 48 13 = some (.putfield 13, ((3, 0), ([], [2]))) := (kT_48 13).trans rfl
theorem r_48_16 : xT.1 48 16 = some (.aload_n 0, ((0, 0), ([], []))) := (kT_48 16).trans rfl
theorem r_48_17 : xT.1 48 17 = some (.iconst 5, ((0, 0), ([.int 5], []))) := (kT_48 17).trans rfl
theorem r_48_18 : xT.1 48 18 = some (.newarray .int, ((0, 0), ([], []))) := (kT_48 18).trans rfl
theorem r_48_20 : xT.1 48 20 = some (.putfield 16, ((3, 1), ([], [2]))) := (kT_48 20).trans rfl
theorem r_48_23 : xT.1 48 23 = some (.aload_n 0, ((0, 0), ([], []))) := (kT_48 23).trans rfl
theorem r_48_24 : xT.1 48 24 = some (.iconst 5, ((0, 0), ([.int 5], []))) := (kT_48 24).trans rfl
theorem r_48_25 : xT.1 48 25 = some (.newarray .int, ((0, 0), ([], []))) := (kT_48 25).trans rfl
theorem r_48_27 : xT.1 48 27 = some (.putfield 20, ((3, 2), ([], [2]))) := (kT_48 27).trans rfl
theorem r_48_30 : xT.1 48 30 = some (.return_, ((0, 0), ([], []))) := (kT_48 30).trans rfl
theorem kT_49 (pc : Nat) : xT.1 49 pc = xfind k_49 pc := rfl
theorem r_49_0 : xT.1 49 0 = some (.aload_n 0, ((0, 0), ([], []))) := (kT_49 0).trans rfl
theorem r_49_1 : xT.1 49 1 = some (.aload_n 1, ((0, 0), ([], []))) := (kT_49 1).trans rfl
theorem r_49_2 : xT.1 49 2 = some (.invokevirtual 23, ((52, 2), ([], [0]))) := (kT_49 2).trans rfl
theorem r_49_5 : xT.1 49 5 = some (.aload_n 1, ((0, 0), ([], []))) := (kT_49 5).trans rfl
theorem r_49_6 : xT.1 49 6 = some (.getfield 27, ((7, 3), ([], []))) := (kT_49 6).trans rfl
theorem r_49_9 : xT.1 49 9 = some (.istore_n 2, ((0, 0), ([], []))) := (kT_49 9).trans rfl
theorem r_49_10 : xT.1 49 10 = some (.iload_n 2, ((0, 0), ([], []))) := (kT_49 10).trans rfl
theorem r_49_11 : xT.1 49 11 = some (.ifCond .le 22, ((33, 0), ([], []))) := (kT_49 11).trans rfl
theorem r_49_14 : xT.1 49 14 = some (.aload_n 0, ((0, 0), ([], []))) := (kT_49 14).trans rfl
theorem r_49_15 : xT.1 49 15 = some (.iload_n 2, ((0, 0), ([], []))) := (kT_49 15).trans rfl
theorem r_49_16 : xT.1 49 16 = some (.invokevirtual 33, ((55, 2), ([], [0]))) := (kT_49 16).trans rfl
theorem r_49_19 : xT.1 49 19 = some (.istore_n 3, ((0, 0), ([], []))) := (kT_49 19).trans rfl
theorem r_49_20 : xT.1 49 20 = some (.iload_n 3, ((0, 0), ([], []))) := (kT_49 20).trans rfl
theorem r_49_21 : xT.1 49 21 = some (.iconst (-1), ((0, 0), ([.int (-1)], []))) := (kT_49 21).trans rfl
theorem r_49_22 : xT.1 49 22 = some (.if_icmp .eq 5, ((27, 0), ([], []))) := (kT_49 22).trans rfl
theorem r_49_25 : xT.1 49 25 = some (.iload_n 3, ((0, 0), ([], []))) := (kT_49 25).trans rfl
theorem r_49_26 : xT.1 49 26 = some (.ireturn, ((0, 0), ([], []))) := (kT_49 26).trans rfl
theorem r_49_27 : xT.1 49 27 = some (.iinc 2 (-1), ((0, 0), ([.int (-1)], []))) := (kT_49 27).trans rfl
theorem r_49_30 : xT.1 49 30 = some (.goto (-20), ((10, 0), ([], []))) := (kT_49 30).trans rfl
theorem r_49_33 : xT.1 49 33 = some (.iconst (-1), ((0, 0), ([.int (-1)], []))) := (kT_49 33).trans rfl
theorem r_49_34 : xT.1 49 34 = some (.ireturn, ((0, 0), ([], []))) := (kT_49 34).trans rfl
theorem kT_50 (pc : Nat) : xT.1 50 pc = xfind k_50 pc := rfl
theorem r_50_0 : xT.1 50 0 = some (.aload_n 0, ((0, 0), ([], []))) := (kT_50 0).trans rfl
theorem r_50_1 : xT.1 50 1 = some (.aload_n 1, ((0, 0), ([], []))) := (kT_50 1).trans rfl
theorem r_50_2 : xT.1 50 2 = some (.invokevirtual 23, ((52, 2), ([], [0]))) := (kT_50 2).trans rfl
theorem r_50_5 : xT.1 50 5 = some (.iconst 0, ((0, 0), ([.int 0], []))) := (kT_50 5).trans rfl
theorem r_50_6 : xT.1 50 6 = some (.istore_n 2, ((0, 0), ([], []))) := (kT_50 6).trans rfl
theorem r_50_7 : xT.1 50 7 = some (.iconst 0, ((0, 0), ([.int 0], []))) := (kT_50 7).trans rfl
theorem r_50_8 : xT.1 50 8 = some (.istore_n 3, ((0, 0), ([], []))) := (kT_50 8).trans rfl
theorem r_50_9 : xT.1 50 9 = some (.iload_n 3, ((0, 0), ([], []))) := (kT_50 9).trans rfl
theorem r_50_10 : xT.1 50 10 = some (.bipush 16, ((0, 0), ([.int 16], []))) := (kT_50 10).trans rfl
theorem r_50_12 : xT.1 50 12 = some (.if_icmp .ge 23, ((35, 0), ([], []))) := (kT_50 12).trans rfl
theorem r_50_15 : xT.1 50 15 = some (.iload_n 2, ((0, 0), ([], []))) := (kT_50 15).trans rfl
theorem r_50_16 : xT.1 50 16 = some (.aload_n 0, ((0, 0), ([], []))) := (kT_50 16).trans rfl
theorem r_50_17 : xT.1 50 17 = some (.getfield 13, ((3, 0), ([], []))) := (kT_50 17).trans rfl
theorem r_50_20 : xT.1 50 20 = some (.iconst 1, ((0, 0), ([.int 1], []))) := (kT_50 20).trans rfl
theorem r_50_21 : xT.1 50 21 = some (.aaload, ((0, 0), ([], []))) := (kT_50 21).trans rfl
theorem r_50_22 : xT.1 50 22 = some (.iload_n 3, ((0, 0), ([], []))) := (kT_50 22).trans rfl
theorem r_50_23 : xT.1 50 23 = some (.laload, ((0, 0), ([], []))) := (kT_50 23).trans rfl
theorem r_50_24 : xT.1 50 24 = some (.invokestatic 37, ((287, 1), ([], [1]))) := (kT_50 24).trans rfl
theorem r_50_27 : xT.1 50 27 = some (.iadd, ((0, 0), ([], []))) := (kT_50 27).trans rfl
theorem r_50_28 : xT.1 50 28 = some (.istore_n 2, ((0, 0), ([], []))) := (kT_50 28).trans rfl
theorem r_50_29 : xT.1 50 29 = some (.iinc 3 1, ((0, 0), ([.int (1)], []))) := (kT_50 29).trans rfl
theorem r_50_32 : xT.1 50 32 = some (.goto (-23), ((9, 0), ([], []))) := (kT_50 32).trans rfl
theorem r_50_35 : xT.1 50 35 = some (.iload_n 2, ((0, 0), ([], []))) := (kT_50 35).trans rfl
theorem r_50_36 : xT.1 50 36 = some (.ireturn, ((0, 0), ([], []))) := (kT_50 36).trans rfl
