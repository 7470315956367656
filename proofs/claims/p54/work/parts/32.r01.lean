/-! the rows of the tables, one by one -/
theorem kT_51 (pc : Nat) : xT.1 51 pc = xfind k_51 pc := rfl
theorem r_51_0 : xT.1 51 0 = some (.iconst 0, ((0, 0), ([.int 0], []))) := (kT_51 0).trans rfl
theorem r_51_1 : xT.1 51 1 = some (.istore_n 2, ((0, 0), ([], []))) := (kT_51 1).trans rfl
theorem r_51_2 : xT.1 51 2 = some (.iload_n 2, ((0, 0), ([], []))) := (kT_51 2).trans rfl
theorem r_51_3 : xT.1 51 3 = some (.aload_n 1, ((0, 0), ([], []))) := (kT_51 3).trans rfl
theorem r_51_4 : xT.1 51 4 = some (.getfield 27, ((7, 3), ([], []))) := (kT_51 4).trans rfl
theorem r_51_7 : xT.1 51 7 = some (.if_icmp .ge 43, ((50, 0), ([], []))) := (kT_51 7).trans rfl
theorem r_51_10 : xT.1 51 10 = some (.aload_n 0, ((0, 0), ([], []))) := (kT_51 10).trans rfl
theorem r_51_11 : xT.1 51 11 = some (.getfield 16, ((3, 1), ([], []))) := (kT_51 11).trans rfl
theorem r_51_14 : xT.1 51 14 = some (.iload_n 2, ((0, 0), ([], []))) := (kT_51 14).trans rfl
theorem r_51_15 : xT.1 51 15 = some (.aload_n 1, ((0, 0), ([], []))) := (kT_51 15).trans rfl
theorem r_51_16 : xT.1 51 16 = some (.getfield 43, ((7, 0), ([], []))) := (kT_51 16).trans rfl
theorem r_51_19 : xT.1 51 19 = some (.iload_n 2, ((0, 0), ([], []))) := (kT_51 19).trans rfl
theorem r_51_20 : xT.1 51 20 = some (.aaload, ((0, 0), ([], []))) := (kT_51 20).trans rfl
theorem r_51_21 : xT.1 51 21 = some (.getfield 47, ((4, 1), ([], []))) := (kT_51 21).trans rfl
theorem r_51_24 : xT.1 51 24 = some (.invokestatic 52, ((56, 3), ([], [1]))) := (kT_51 24).trans rfl
theorem r_51_27 : xT.1 51 27 = some (.aload_n 0, ((0, 0), ([], []))) := (kT_51 27).trans rfl
theorem r_51_28 : xT.1 51 28 = some (.getfield 20, ((3, 2), ([], []))) := (kT_51 28).trans rfl
theorem r_51_31 : xT.1 51 31 = some (.iload_n 2, ((0, 0), ([], []))) := (kT_51 31).trans rfl
theorem r_51_32 : xT.1 51 32 = some (.aload_n 1, ((0, 0), ([], []))) := (kT_51 32).trans rfl
theorem r_51_33 : xT.1 51 33 = some (.getfield 43, ((7, 0), ([], []))) := (kT_51 33).trans rfl
theorem r_51_36 : xT.1 51 36 = some (.iload_n 2, ((0, 0), ([], []))) := (kT_51 36).trans rfl
theorem r_51_37 : xT.1 51 37 = some (.aaload, ((0, 0), ([], []))) := (kT_51 37).trans rfl
theorem r_51_38 : xT.1 51 38 = some (.getfield 56, ((4, 2), ([], []))) := (kT_51 38).trans rfl
theorem r_51_41 : xT.1 51 41 = some (.invokestatic 52, ((56, 3), ([], [1]))) := (kT_51 41).trans rfl
theorem r_51_44 : xT.1 51 44 = some (.iinc 2 1, ((0, 0), ([.int (1)], []))) := (kT_51 44).trans rfl
theorem r_51_47 : xT.1 51 47 = some (.goto (-45), ((2, 0), ([], []))) := (kT_51 47).trans rfl
theorem r_51_50 : xT.1 51 50 = some (.iconst (-1), ((0, 0), ([.int (-1)], []))) := (kT_51 50).trans rfl
theorem r_51_51 : xT.1 51 51 = some (.istore_n 2, ((0, 0), ([], []))) := (kT_51 51).trans rfl
theorem r_51_52 : xT.1 51 52 = some (.iconst 0, ((0, 0), ([.int 0], []))) := (kT_51 52).trans rfl
theorem r_51_53 : xT.1 51 53 = some (.istore_n 3, ((0, 0), ([], []))) := (kT_51 53).trans rfl
theorem r_51_54 : xT.1 51 54 = some (.iconst 0, ((0, 0), ([.int 0], []))) := (kT_51 54).trans rfl
theorem r_51_55 : xT.1 51 55 = some (.istore 4, ((0, 0), ([], []))) := (kT_51 55).trans rfl
theorem r_51_57 : xT.1 51 57 = some (.iconst 0, ((0, 0), ([.int 0], []))) := (kT_51 57).trans rfl
theorem r_51_58 : xT.1 51 58 = some (.istore 5, ((0, 0), ([], []))) := (kT_51 58).trans rfl
theorem r_51_60 : xT.1 51 60 = some (.iload 5, ((0, 0), ([], []))) := (kT_51 60).trans rfl
theorem r_51_62 : xT.1 51 62 = some (.aload_n 1, ((0, 0), ([], []))) := (kT_51 62).trans rfl
theorem r_51_63 : xT.1 51 63 = some (.getfield 27, ((7, 3), ([], []))) := (kT_51 63).trans rfl
theorem r_51_66 : xT.1 51 66 = some (.if_icmp .ge 68, ((134, 0), ([], []))) := (kT_51 66).trans rfl
theorem r_51_69 : xT.1 51 69 = some (.iload 4, ((0, 0), ([], []))) := (kT_51 69).trans rfl
theorem r_51_71 : xT.1 51 71 = some (.aload_n 1, ((0, 0), ([], []))) := (kT_51 71).trans rfl
theorem r_51_72 : xT.1 51 72 = some (.getfield 27, ((7, 3), ([], []))) := (kT_51 72).trans rfl
theorem r_51_75 : xT.1 51 75 = some (.if_icmp .ge 26, ((101, 0), ([], []))) := (kT_51 75).trans rfl
theorem r_51_78 : xT.1 51 78 = some (.aload_n 0, ((0, 0), ([], []))) := (kT_51 78).trans rfl
theorem r_51_79 : xT.1 51 79 = some (.getfield 20, ((3, 2), ([], []))) := (kT_51 79).trans rfl
theorem r_51_82 : xT.1 51 82 = some (.iload 4, ((0, 0), ([], []))) := (kT_51 82).trans rfl
theorem r_51_84 : xT.1 51 84 = some (.iaload, ((0, 0), ([], []))) := (kT_51 84).trans rfl
theorem r_51_85 : xT.1 51 85 = some (.aload_n 0, ((0, 0), ([], []))) := (kT_51 85).trans rfl
theorem r_51_86 : xT.1 51 86 = some (.getfield 16, ((3, 1), ([], []))) := (kT_51 86).trans rfl
theorem r_51_89 : xT.1 51 89 = some (.iload 5, ((0, 0), ([], []))) := (kT_51 89).trans rfl
theorem r_51_91 : xT.1 51 91 = some (.iaload, ((0, 0), ([], []))) := (kT_51 91).trans rfl
theorem r_51_92 : xT.1 51 92 = some (.if_icmp .ge 9, ((101, 0), ([], []))) := (kT_51 92).trans rfl
theorem r_51_95 : xT.1 51 95 = some (.iinc 4 1, ((0, 0), ([.int (1)], []))) := (kT_51 95).trans rfl
theorem r_51_98 : xT.1 51 98 = some (.goto (-29), ((69, 0), ([], []))) := (kT_51 98).trans rfl
theorem r_51_101 : xT.1 51 101 = some (.iload 5, ((0, 0), ([], []))) := (kT_51 101).trans rfl
theorem r_51_103 : xT.1 51 103 = some (.iconst 1, ((0, 0), ([.int 1], []))) := (kT_51 103).trans rfl
theorem r_51_104 : xT.1 51 104 = some (.iadd, ((0, 0), ([], []))) := (kT_51 104).trans rfl
theorem r_51_105 : xT.1 51 105 = some (.iload 4, ((0, 0), ([], []))) := (kT_51 105).trans rfl
theorem r_51_107 : xT.1 51 107 = some (.isub, ((0, 0), ([], []))) := (kT_51 107).trans rfl
theorem r_51_108 : xT.1 51 108 = some (.iload_n 3, ((0, 0), ([], []))) := (kT_51 108).trans rfl
theorem r_51_109 : xT.1 51 109 = some (.if_icmp .le 19, ((128, 0), ([], []))) := (kT_51 109).trans rfl
theorem r_51_112 : xT.1 51 112 = some (.iload 5, ((0, 0), ([], []))) := (kT_51 112).trans rfl
theorem r_51_114 : xT.1 51 114 = some (.iconst 1, ((0, 0), ([.int 1], []))) := (kT_51 114).trans rfl
theorem r_51_115 : xT.1 51 115 = some (.iadd, ((0, 0), ([], []))) := (kT_51 115).trans rfl
theorem r_51_116 : xT.1 51 116 = some (.iload 4, ((0, 0), ([], []))) := (kT_51 116).trans rfl
theorem r_51_118 : xT.1 51 118 = some (.isub, ((0, 0), ([], []))) := (kT_51 118).trans rfl
theorem r_51_119 : xT.1 51 119 = some (.istore_n 3, ((0, 0), ([], []))) := (kT_51 119).trans rfl
theorem r_51_120 : xT.1 51 120 = some (.aload_n 0, ((0, 0), ([], []))) := (kT_51 120).trans rfl
theorem r_51_121 : xT.1 51 121 = some (.getfield 16, ((3, 1), ([], []))) := (kT_51 121).trans rfl
theorem r_51_124 : xT.1 51 124 = some (.iload 5, ((0, 0), ([], []))) := (kT_51 124).trans rfl
theorem r_51_126 : xT.1 51 126 = some (.iaload, ((0, 0), ([], []))) := (kT_51 126).trans rfl
theorem r_51_127 : xT.1 51 127 = some (.istore_n 2, ((0, 0), ([], []))) := (kT_51 127).trans rfl
theorem r_51_128 : xT.1 51 128 = some (.iinc 5 1, ((0, 0), ([.int (1)], []))) := (kT_51 128).trans rfl
theorem r_51_131 : xT.1 51 131 = some (.goto (-71), ((60, 0), ([], []))) := (kT_51 131).trans rfl
theorem r_51_134 : xT.1 51 134 = some (.iload_n 2, ((0, 0), ([], []))) := (kT_51 134).trans rfl
theorem r_51_135 : xT.1 51 135 = some (.ireturn, ((0, 0), ([], []))) := (kT_51 135).trans rfl
theorem kT_52 (pc : Nat) : xT.1 52 pc = xfind k_52 pc := rfl
theorem r_52_0 : xT.1 52 0 = some (.iconst 1, ((0, 0), ([.int 1], []))) := (kT_52 0).trans rfl
theorem r_52_1 : xT.1 52 1 = some (.istore_n 2, ((0, 0), ([], []))) := (kT_52 1).trans rfl
theorem r_52_2 : xT.1 52 2 = some (.iload_n 2, ((0, 0), ([], []))) := (kT_52 2).trans rfl
theorem r_52_3 : xT.1 52 3 = some (.iconst 5, ((0, 0), ([.int 5], []))) := (kT_52 3).trans rfl
theorem r_52_4 : xT.1 52 4 = some (.if_icmp .gt 19, ((23, 0), ([], []))) := (kT_52 4).trans rfl
theorem r_52_7 : xT.1 52 7 = some (.aload_n 0, ((0, 0), ([], []))) := (kT_52 7).trans rfl
theorem r_52_8 : xT.1 52 8 = some (.getfield 13, ((3, 0), ([], []))) := (kT_52 8).trans rfl
theorem r_52_11 : xT.1 52 11 = some (.iload_n 2, ((0, 0), ([], []))) := (kT_52 11).trans rfl
theorem r_52_12 : xT.1 52 12 = some (.aaload, ((0, 0), ([], []))) := (kT_52 12).trans rfl
theorem r_52_13 : xT.1 52 13 = some (.lconst 0, ((0, 0), ([.long 0], []))) := (kT_52 13).trans rfl
theorem r_52_14 : xT.1 52 14 = some (.invokestatic 59, ((291, 2), ([], [1]))) := (kT_52 14).trans rfl
theorem r_52_17 : xT.1 52 17 = some (.iinc 2 1, ((0, 0), ([.int (1)], []))) := (kT_52 17).trans rfl
theorem r_52_20 : xT.1 52 20 = some (.goto (-18), ((2, 0), ([], []))) := (kT_52 20).trans rfl
theorem r_52_23 : xT.1 52 23 = some (.iconst 0, ((0, 0), ([.int 0], []))) := (kT_52 23).trans rfl
theorem r_52_24 : xT.1 52 24 = some (.istore_n 2, ((0, 0), ([], []))) := (kT_52 24).trans rfl
theorem r_52_25 : xT.1 52 25 = some (.iload_n 2, ((0, 0), ([], []))) := (kT_52 25).trans rfl
theorem r_52_26 : xT.1 52 26 = some (.aload_n 1, ((0, 0), ([], []))) := (kT_52 26).trans rfl
theorem r_52_27 : xT.1 52 27 = some (.getfield 27, ((7, 3), ([], []))) := (kT_52 27).trans rfl
theorem r_52_30 : xT.1 52 30 = some (.if_icmp .ge 22, ((52, 0), ([], []))) := (kT_52 30).trans rfl
theorem r_52_33 : xT.1 52 33 = some (.aload_n 0, ((0, 0), ([], []))) := (kT_52 33).trans rfl
theorem r_52_34 : xT.1 52 34 = some (.aload_n 1, ((0, 0), ([], []))) := (kT_52 34).trans rfl
theorem r_52_35 : xT.1 52 35 = some (.getfield 43, ((7, 0), ([], []))) := (kT_52 35).trans rfl
theorem r_52_38 : xT.1 52 38 = some (.iload_n 2, ((0, 0), ([], []))) := (kT_52 38).trans rfl
theorem r_52_39 : xT.1 52 39 = some (.aaload, ((0, 0), ([], []))) := (kT_52 39).trans rfl
theorem r_52_40 : xT.1 52 40 = some (.iload_n 2, ((0, 0), ([], []))) := (kT_52 40).trans rfl
theorem r_52_41 : xT.1 52 41 = some (.iconst 1, ((0, 0), ([.int 1], []))) := (kT_52 41).trans rfl
theorem r_52_42 : xT.1 52 42 = some (.iadd, ((0, 0), ([], []))) := (kT_52 42).trans rfl
theorem r_52_43 : xT.1 52 43 = some (.invokevirtual 65, ((53, 3), ([], [0]))) := (kT_52 43).trans rfl
theorem r_52_46 : xT.1 52 46 = some (.iinc 2 1, ((0, 0), ([.int (1)], []))) := (kT_52 46).trans rfl
theorem r_52_49 : xT.1 52 49 = some (.goto (-24), ((25, 0), ([], []))) := (kT_52 49).trans rfl
theorem r_52_52 : xT.1 52 52 = some (.return_, ((0, 0), ([], []))) := (kT_52 52).trans rfl
theorem kT_53 (pc : Nat) : xT.1 53 pc = xfind k_53 pc := rfl
theorem r_53_0 : xT.1 53 0 = some (.iconst 0, ((0, 0), ([.int 0], []))) := (kT_53 0).trans rfl
theorem r_53_1 : xT.1 53 1 = some (.istore_n 3, ((0, 0), ([], []))) := (kT_53 1).trans rfl
theorem r_53_2 : xT.1 53 2 = some (.iload_n 3, ((0, 0), ([], []))) := (kT_53 2).trans rfl
theorem r_53_3 : xT.1 53 3 = some (.bipush 16, ((0, 0), ([.int 16], []))) := (kT_53 3).trans rfl
theorem r_53_5 : xT.1 53 5 = some (.if_icmp .ge 77, ((82, 0), ([], []))) := (kT_53 5).trans rfl
theorem r_53_8 : xT.1 53 8 = some (.aload_n 1, ((0, 0), ([], []))) := (kT_53 8).trans rfl
theorem r_53_9 : xT.1 53 9 = some (.getfield 47, ((4, 1), ([], []))) := (kT_53 9).trans rfl
theorem r_53_12 : xT.1 53 12 = some (.aload_n 1, ((0, 0), ([], []))) := (kT_53 12).trans rfl
theorem r_53_13 : xT.1 53 13 = some (.getfield 56, ((4, 2), ([], []))) := (kT_53 13).trans rfl
theorem r_53_16 : xT.1 53 16 = some (.iload_n 3, ((0, 0), ([], []))) := (kT_53 16).trans rfl
theorem r_53_17 : xT.1 53 17 = some (.invokestatic 69, ((54, 3), ([], [1]))) := (kT_53 17).trans rfl
theorem r_53_20 : xT.1 53 20 = some (.lstore 4, ((0, 0), ([], []))) := (kT_53 20).trans rfl
theorem r_53_22 : xT.1 53 22 = some (.iload_n 2, ((0, 0), ([], []))) := (kT_53 22).trans rfl
theorem r_53_23 : xT.1 53 23 = some (.istore 6, ((0, 0), ([], []))) := (kT_53 23).trans rfl
theorem r_53_25 : xT.1 53 25 = some (.iload 6, ((0, 0), ([], []))) := (kT_53 25).trans rfl
theorem r_53_27 : xT.1 53 27 = some (.iconst 1, ((0, 0), ([.int 1], []))) := (kT_53 27).trans rfl
theorem r_53_28 : xT.1 53 28 = some (.if_icmp .le 35, ((63, 0), ([], []))) := (kT_53 28).trans rfl
theorem r_53_31 : xT.1 53 31 = some (.aload_n 0, ((0, 0), ([], []))) := (kT_53 31).trans rfl
theorem r_53_32 : xT.1 53 32 = some (.getfield 13, ((3, 0), ([], []))) := (kT_53 32).trans rfl
theorem r_53_35 : xT.1 53 35 = some (.iload 6, ((0, 0), ([], []))) := (kT_53 35).trans rfl
theorem r_53_37 : xT.1 53 37 = some (.aaload, ((0, 0), ([], []))) := (kT_53 37).trans rfl
theorem r_53_38 : xT.1 53 38 = some (.iload_n 3, ((0, 0), ([], []))) := (kT_53 38).trans rfl
theorem r_53_39 : xT.1 53 39 = some (.dup2, ((0, 0), ([], []))) := (kT_53 39).trans rfl
theorem r_53_40 : xT.1 53 40 = some (.laload, ((0, 0), ([], []))) := (kT_53 40).trans rfl
theorem r_53_41 : xT.1 53 41 = some (.aload_n 0, ((0, 0), ([], []))) := (kT_53 41).trans rfl
theorem r_53_42 : xT.1 53 42 = some (.getfield 13, ((3, 0), ([], []))) := (kT_53 42).trans rfl
theorem r_53_45 : xT.1 53 45 = some (.iload 6, ((0, 0), ([], []))) := (kT_53 45).trans rfl
theorem r_53_47 : xT.1 53 47 = some (.iconst 1, ((0, 0), ([.int 1], []))) := (kT_53 47).trans rfl
theorem r_53_48 : xT.1 53 48 = some (.isub, ((0, 0), ([], []))) := (kT_53 48).trans rfl
theorem r_53_49 : xT.1 53 49 = some (.aaload, ((0, 0), ([], []))) := (kT_53 49).trans rfl
theorem r_53_50 : xT.1 53 50 = some (.iload_n 3, ((0, 0), ([], []))) := (kT_53 50).trans rfl
theorem r_53_51 : xT.1 53 51 = some (.laload, ((0, 0), ([], []))) := (kT_53 51).trans rfl
theorem r_53_52 : xT.1 53 52 = some (.lload 4, ((0, 0), ([], []))) := (kT_53 52).trans rfl
theorem r_53_54 : xT.1 53 54 = some (.land, ((0, 0), ([], []))) := (kT_53 54).trans rfl
theorem r_53_55 : xT.1 53 55 = some (.lor, ((0, 0), ([], []))) := (kT_53 55).trans rfl
theorem r_53_56 : xT.1 53 56 = some (.lastore, ((0, 0), ([], []))) := (kT_53 56).trans rfl
theorem r_53_57 : xT.1 53 57 = some (.iinc 6 (-1), ((0, 0), ([.int (-1)], []))) := (kT_53 57).trans rfl
theorem r_53_60 : xT.1 53 60 = some (.goto (-35), ((25, 0), ([], []))) := (kT_53 60).trans rfl
theorem r_53_63 : xT.1 53 63 = some (.aload_n 0, ((0, 0), ([], []))) := (kT_53 63).trans rfl
theorem r_53_64 : xT.1 53 64 = some (.getfield 13, ((3, 0), ([], []))) := (kT_53 64).trans rfl
theorem r_53_67 : xT.1 53 67 = some (.iconst 1, ((0, 0), ([.int 1], []))) := (kT_53 67).trans rfl
theorem r_53_68 : xT.1 53 68 = some (.aaload, ((0, 0), ([], []))) := (kT_53 68).trans rfl
theorem r_53_69 : xT.1 53 69 = some (.iload_n 3, ((0, 0), ([], []))) := (kT_53 69).trans rfl
theorem r_53_70 : xT.1 53 70 = some (.dup2, ((0, 0), ([], []))) := (kT_53 70).trans rfl
theorem r_53_71 : xT.1 53 71 = some (.laload, ((0, 0), ([], []))) := (kT_53 71).trans rfl
theorem r_53_72 : xT.1 53 72 = some (.lload 4, ((0, 0), ([], []))) := (kT_53 72).trans rfl
theorem r_53_74 : xT.1 53 74 = some (.lor, ((0, 0), ([], []))) := (kT_53 74).trans rfl
theorem r_53_75 : xT.1 53 75 = some (.lastore, ((0, 0), ([], []))) := (kT_53 75).trans rfl
theorem r_53_76 : xT.1 53 76 = some (.iinc 3 1, ((0, 0), ([.int (1)], []))) := (kT_53 76).trans rfl
theorem r_53_79 : xT.1 53 79 = some (.goto (-77), ((2, 0), ([], []))) := (kT_53 79).trans rfl
theorem r_53_82 : xT.1 53 82 = some (.return_, ((0, 0), ([], []))) := (kT_53 82).trans rfl
theorem kT_54 (pc : Nat) : xT.1 54 pc = xfind k_54 pc := rfl
theorem r_54_0 : xT.1 54 0 = some (.iload_n 0, ((0, 0), ([], []))) := (kT_54 0).trans rfl
theorem r_54_1 : xT.1 54 1 = some (.iload_n 2, ((0, 0), ([], []))) := (kT_54 1).trans rfl
theorem r_54_2 : xT.1 54 2 = some (.bipush 64, ((0, 0), ([.int 64], []))) := (kT_54 2).trans rfl
theorem r_54_4 : xT.1 54 4 = some (.imul, ((0, 0), ([], []))) := (kT_54 4).trans rfl
theorem r_54_5 : xT.1 54 5 = some (.isub, ((0, 0), ([], []))) := (kT_54 5).trans rfl
theorem r_54_6 : xT.1 54 6 = some (.iconst 0, ((0, 0), ([.int 0], []))) := (kT_54 6).trans rfl
theorem r_54_7 : xT.1 54 7 = some (.invokestatic 73, ((20, 2), ([], [4]))) := (kT_54 7).trans rfl
theorem r_54_10 : xT.1 54 10 = some (.istore_n 3, ((0, 0), ([], []))) := (kT_54 10).trans rfl
theorem r_54_11 : xT.1 54 11 = some (.iload_n 1, ((0, 0), ([], []))) := (kT_54 11).trans rfl
theorem r_54_12 : xT.1 54 12 = some (.iload_n 2, ((0, 0), ([], []))) := (kT_54 12).trans rfl
theorem r_54_13 : xT.1 54 13 = some (.bipush 64, ((0, 0), ([.int 64], []))) := (kT_54 13).trans rfl
theorem r_54_15 : xT.1 54 15 = some (.imul, ((0, 0), ([], []))) := (kT_54 15).trans rfl
theorem r_54_16 : xT.1 54 16 = some (.isub, ((0, 0), ([], []))) := (kT_54 16).trans rfl
theorem r_54_17 : xT.1 54 17 = some (.bipush 63, ((0, 0), ([.int 63], []))) := (kT_54 17).trans rfl
theorem r_54_19 : xT.1 54 19 = some (.invokestatic 79, ((21, 2), ([], [4]))) := (kT_54 19).trans rfl
theorem r_54_22 : xT.1 54 22 = some (.istore 4, ((0, 0), ([], []))) := (kT_54 22).trans rfl
theorem r_54_24 : xT.1 54 24 = some (.iload_n 3, ((0, 0), ([], []))) := (kT_54 24).trans rfl
theorem r_54_25 : xT.1 54 25 = some (.iload 4, ((0, 0), ([], []))) := (kT_54 25).trans rfl
theorem r_54_27 : xT.1 54 27 = some (.if_icmp .le 7, ((34, 0), ([], []))) := (kT_54 27).trans rfl
theorem r_54_30 : xT.1 54 30 = some (.lconst 0, ((0, 0), ([.long 0], []))) := (kT_54 30).trans rfl
theorem r_54_31 : xT.1 54 31 = some (.goto 18, ((49, 0), ([], []))) := (kT_54 31).trans rfl
theorem r_54_34 : xT.1 54 34 = some (.ldc2_w 82, ((0, 0), ([.long (-1)], []))) := (kT_54 34).trans rfl
theorem r_54_37 : xT.1 54 37 = some (.iload_n 3, ((0, 0), ([], []))) := (kT_54 37).trans rfl
theorem r_54_38 : xT.1 54 38 = some (.lshl, ((0, 0), ([], []))) := (kT_54 38).trans rfl
theorem r_54_39 : xT.1 54 39 = some (.ldc2_w 82, ((0, 0), ([.long (-1)], []))) := (kT_54 39).trans rfl
theorem r_54_42 : xT.1 54 42 = some (.bipush 63, ((0, 0), ([.int 63], []))) := (kT_54 42).trans rfl
theorem r_54_44 : xT.1 54 44 = some (.iload 4, ((0, 0), ([], []))) := (kT_54 44).trans rfl
theorem r_54_46 : xT.1 54 46 = some (.isub, ((0, 0), ([], []))) := (kT_54 46).trans rfl
theorem r_54_47 : xT.1 54 47 = some (.lushr, ((0, 0), ([], []))) := (kT_54 47).trans rfl
theorem r_54_48 : xT.1 54 48 = some (.land, ((0, 0), ([], []))) := (kT_54 48).trans rfl
theorem r_54_49 : xT.1 54 49 = some (.lreturn, ((0, 0), ([], []))) := (kT_54 49).trans rfl
theorem kT_55 (pc : Nat) : xT.1 55 pc = xfind k_55 pc := rfl
theorem r_55_0 : xT.1 55 0 = some (.iconst 0, ((0, 0), ([.int 0], []))) := (kT_55 0).trans rfl
theorem r_55_1 : xT.1 55 1 = some (.istore_n 2, ((0, 0), ([], []))) := (kT_55 1).trans rfl
theorem r_55_2 : xT.1 55 2 = some (.iload_n 2, ((0, 0), ([], []))) := (kT_55 2).trans rfl
theorem r_55_3 : xT.1 55 3 = some (.bipush 16, ((0, 0), ([.int 16], []))) := (kT_55 3).trans rfl
theorem r_55_5 : xT.1 55 5 = some (.if_icmp .ge 39, ((44, 0), ([], []))) := (kT_55 5).trans rfl
theorem r_55_8 : xT.1 55 8 = some (.aload_n 0, ((0, 0), ([], []))) := (kT_55 8).trans rfl
theorem r_55_9 : xT.1 55 9 = some (.getfield 13, ((3, 0), ([], []))) := (kT_55 9).trans rfl
theorem r_55_12 : xT.1 55 12 = some (.iload_n 1, ((0, 0), ([], []))) := (kT_55 12).trans rfl
theorem r_55_13 : xT.1 55 13 = some (.aaload, ((0, 0), ([], []))) := (kT_55 13).trans rfl
theorem r_55_14 : xT.1 55 14 = some (.iload_n 2, ((0, 0), ([], []))) := (kT_55 14).trans rfl
theorem r_55_15 : xT.1 55 15 = some (.laload, ((0, 0), ([], []))) := (kT_55 15).trans rfl
theorem r_55_16 : xT.1 55 16 = some (.lconst 0, ((0, 0), ([.long 0], []))) := (kT_55 16).trans rfl
theorem r_55_17 : xT.1 55 17 = some (.lcmp, ((0, 0), ([], []))) := (kT_55 17).trans rfl
theorem r_55_18 : xT.1 55 18 = some (.ifCond .eq 20, ((38, 0), ([], []))) := (kT_55 18).trans rfl
theorem r_55_21 : xT.1 55 21 = some (.iload_n 2, ((0, 0), ([], []))) := (kT_55 21).trans rfl
theorem r_55_22 : xT.1 55 22 = some (.bipush 64, ((0, 0), ([.int 64], []))) := (kT_55 22).trans rfl
theorem r_55_24 : xT.1 55 24 = some (.imul, ((0, 0), ([], []))) := (kT_55 24).trans rfl
theorem r_55_25 : xT.1 55 25 = some (.aload_n 0, ((0, 0), ([], []))) := (kT_55 25).trans rfl
theorem r_55_26 : xT.1 55 26 = some (.getfield 13, ((3, 0), ([], []))) := (kT_55 26).trans rfl
theorem r_55_29 : xT.1 55 29 = some (.iload_n 1, ((0, 0), ([], []))) := (kT_55 29).trans rfl
theorem r_55_30 : xT.1 55 30 = some (.aaload, ((0, 0), ([], []))) := (kT_55 30).trans rfl
theorem r_55_31 : xT.1 55 31 = some (.iload_n 2, ((0, 0), ([], []))) := (kT_55 31).trans rfl
theorem r_55_32 : xT.1 55 32 = some (.laload, ((0, 0), ([], []))) := (kT_55 32).trans rfl
theorem r_55_33 : xT.1 55 33 = some (.invokestatic 84, ((288, 1), ([], [1]))) := (kT_55 33).trans rfl
theorem r_55_36 : xT.1 55 36 = some (.iadd, ((0, 0), ([], []))) := (kT_55 36).trans rfl
theorem r_55_37 : xT.1 55 37 = some (.ireturn, ((0, 0), ([], []))) := (kT_55 37).trans rfl
theorem r_55_38 : xT.1 55 38 = some (.iinc 2 1, ((0, 0), ([.int (1)], []))) := (kT_55 38).trans rfl
theorem r_55_41 : xT.1 55 41 = some (.goto (-39), ((2, 0), ([], []))) := (kT_55 41).trans rfl
theorem r_55_44 : xT.1 55 44 = some (.iconst (-1), ((0, 0), ([.int (-1)], []))) := (kT_55 44).trans rfl
theorem r_55_45 : xT.1 55 45 = some (.ireturn, ((0, 0), ([], []))) := (kT_55 45).trans rfl
theorem kT_56 (pc : Nat) : xT.1 56 pc = xfind k_56 pc := rfl
theorem r_56_0 : xT.1 56 0 = some (.iload_n 1, ((0, 0), ([], []))) := (kT_56 0).trans rfl
theorem r_56_1 : xT.1 56 1 = some (.istore_n 3, ((0, 0), ([], []))) := (kT_56 1).trans rfl
theorem r_56_2 : xT.1 56 2 = some (.iload_n 3, ((0, 0), ([], []))) := (kT_56 2).trans rfl
theorem r_56_3 : xT.1 56 3 = some (.ifCond .le 26, ((29, 0), ([], []))) := (kT_56 3).trans rfl
theorem r_56_6 : xT.1 56 6 = some (.aload_n 0, ((0, 0), ([], []))) := (kT_56 6).trans rfl
theorem r_56_7 : xT.1 56 7 = some (.iload_n 3, ((0, 0), ([], []))) := (kT_56 7).trans rfl
theorem r_56_8 : xT.1 56 8 = some (.iconst 1, ((0, 0), ([.int 1], []))) := (kT_56 8).trans rfl
theorem r_56_9 : xT.1 56 9 = some (.isub, ((0, 0), ([], []))) := (kT_56 9).trans rfl
theorem r_56_10 : xT.1 56 10 = some (.iaload, ((0, 0), ([], []))) := (kT_56 10).trans rfl
theorem r_56_11 : xT.1 56 11 = some (.iload_n 2, ((0, 0), ([], []))) := (kT_56 11).trans rfl
theorem r_56_12 : xT.1 56 12 = some (.if_icmp .le 17, ((29, 0), ([], []))) := (kT_56 12).trans rfl
theorem r_56_15 : xT.1 56 15 = some (.aload_n 0, ((0, 0), ([], []))) := (kT_56 15).trans rfl
theorem r_56_16 : xT.1 56 16 = some (.iload_n 3, ((0, 0), ([], []))) := (kT_56 16).trans rfl
theorem r_56_17 : xT.1 56 17 = some (.aload_n 0, ((0, 0), ([], []))) := (kT_56 17).trans rfl
theorem r_56_18 : xT.1 56 18 = some (.iload_n 3, ((0, 0), ([], []))) := (kT_56 18).trans rfl
theorem r_56_19 : xT.1 56 19 = some (.iconst 1, ((0, 0), ([.int 1], []))) := (kT_56 19).trans rfl
theorem r_56_20 : xT.1 56 20 = some (.isub, ((0, 0), ([], []))) := (kT_56 20).trans rfl
theorem r_56_21 : xT.1 56 21 = some (.iaload, ((0, 0), ([], []))) := (kT_56 21).trans rfl
theorem r_56_22 : xT.1 56 22 = some (.iastore, ((0, 0), ([], []))) := (kT_56 22).trans rfl
theorem r_56_23 : xT.1 56 23 = some (.iinc 3 (-1), ((0, 0), ([.int (-1)], []))) := (kT_56 23).trans rfl
theorem r_56_26 : xT.1 56 26 = some (.goto (-24), ((2, 0), ([], []))) := (kT_56 26).trans rfl
theorem r_56_29 : xT.1 56 29 = some (.aload_n 0, ((0, 0), ([], []))) := (kT_56 29).trans rfl
theorem r_56_30 : xT.1 56 30 = some (.iload_n 3, ((0, 0), ([], []))) := (kT_56 30).trans rfl
theorem r_56_31 : xT.1 56 31 = some (.iload_n 2, ((0, 0), ([], []))) := (kT_56 31).trans rfl
theorem r_56_32 : xT.1 56 32 = some (.iastore, ((0, 0), ([], []))) := (kT_56 32).trans rfl
theorem r_56_33 : xT.1 56 33 = some (.return_, ((0, 0), ([], []))) := (kT_56 33).trans rfl
theorem kT_57 (pc : Nat) : xT.1 57 pc = xfind k_57 pc := rfl
theorem r_57_0 : xT.1 57 0 = some (.aload_n 0, ((0, 0), ([], []))) := (kT_57 0).trans rfl
theorem r_57_1 : xT.1 57 1 = some (.invokespecial 3, ((0, 1), ([], [5]))) := (kT_57 1).trans rfl
theorem r_57_4 : xT.1 57 4 = some (.return_, ((0, 0), ([], []))) := (kT_57 4).trans rfl
theorem kT_58 (pc : Nat) : xT.1 58 pc = xfind k_58 pc := rfl
theorem r_58_0 : xT.1 58 0 = some (.aload_n 0, ((0, 0), ([], []))) := (kT_58 0).trans rfl
theorem r_58_1 : xT.1 58 1 = some (.iload_n 1, ((0, 0), ([], []))) := (kT_58 1).trans rfl
theorem r_58_2 : xT.1 58 2 = some (.putfield 9, ((4, 0), ([], [0]))) := (kT_58 2).trans rfl
theorem r_58_5 : xT.1 58 5 = some (.aload_n 0, ((0, 0), ([], []))) := (kT_58 5).trans rfl
theorem r_58_6 : xT.1 58 6 = some (.iload_n 2, ((0, 0), ([], []))) := (kT_58 6).trans rfl
theorem r_58_7 : xT.1 58 7 = some (.putfield 15, ((4, 1), ([], [0]))) := (kT_58 7).trans rfl
theorem r_58_10 : xT.1 58 10 = some (.aload_n 0, ((0, 0), ([], []))) := (kT_58 10).trans rfl
theorem r_58_11 : xT.1 58 11 = some (.iload_n 3, ((0, 0), ([], []))) := (kT_58 11).trans rfl
theorem r_58_12 : xT.1 58 12 = some (.putfield 18, ((4, 2), ([], [0]))) := (kT_58 12).trans rfl
theorem r_58_15 : xT.1 58 15 = some (.aload_n 0, ((0, 0), ([], []))) := (kT_58 15).trans rfl
theorem r_58_16 : xT.1 58 16 = some (.iload 4, ((0, 0), ([], []))) := (kT_58 16).trans rfl
theorem r_58_18 : xT.1 58 18 = some (.putfield 21, ((4, 3), ([], [0]))) := (kT_58 18).trans rfl
theorem r_58_21 : xT.1 58 21 = some (.aload_n 0, ((0, 0), ([], []))) := (kT_58 21).trans rfl
theorem r_58_22 : xT.1 58 22 = some (.iload 5, ((0, 0), ([], []))) := (kT_58 22).trans rfl
theorem r_58_24 : xT.1 58 24 = some (.putfield 24, ((4, 4), ([], [0]))) := (kT_58 24).trans rfl
theorem r_58_27 : xT.1 58 27 = some (.return_, ((0, 0), ([], []))) := (kT_58 27).trans rfl
theorem kT_59 (pc : Nat) : xT.1 59 pc = xfind k_59 pc := rfl
theorem r_59_0 : xT.1 59 0 = some (.aload_n 0, ((0, 0), ([], []))) := (kT_59 0).trans rfl
theorem r_59_1 : xT.1 59 1 = some (.aload_n 1, ((0, 0), ([], []))) := (kT_59 1).trans rfl
theorem r_59_2 : xT.1 59 2 = some (.getfield 9, ((4, 0), ([], []))) := (kT_59 2).trans rfl
theorem r_59_5 : xT.1 59 5 = some (.aload_n 1, ((0, 0), ([], []))) := (kT_59 5).trans rfl
theorem r_59_6 : xT.1 59 6 = some (.getfield 15, ((4, 1), ([], []))) := (kT_59 6).trans rfl
theorem r_59_9 : xT.1 59 9 = some (.aload_n 1, ((0, 0), ([], []))) := (kT_59 9).trans rfl
theorem r_59_10 : xT.1 59 10 = some (.getfield 18, ((4, 2), ([], []))) := (kT_59 10).trans rfl
theorem r_59_13 : xT.1 59 13 = some (.aload_n 1, ((0, 0), ([], []))) := (kT_59 13).trans rfl
theorem r_59_14 : xT.1 59 14 = some (.getfield 21, ((4, 3), ([], []))) := (kT_59 14).trans rfl
theorem r_59_17 : xT.1 59 17 = some (.aload_n 1, ((0, 0), ([], []))) := (kT_59 17).trans rfl
theorem r_59_18 : xT.1 59 18 = some (.getfield 24, ((4, 4), ([], []))) := (kT_59 18).trans rfl
theorem r_59_21 : xT.1 59 21 = some (.invokevirtual 27, ((58, 6), ([], [0]))) := (kT_59 21).trans rfl
theorem r_59_24 : xT.1 59 24 = some (.return_, ((0, 0), ([], []))) := (kT_59 24).trans rfl
theorem kT_60 (pc : Nat) : xT.1 60 pc = xfind k_60 pc := rfl
theorem r_60_0 : xT.1 60 0 = some (.aload_n 0, ((0, 0), ([], []))) := (kT_60 0).trans rfl
theorem r_60_1 : xT.1 60 1 = some (.getfield 15, ((4, 1), ([], []))) := (kT_60 1).trans rfl
theorem r_60_4 : xT.1 60 4 = some (.iload_n 1, ((0, 0), ([], []))) := (kT_60 4).trans rfl
theorem r_60_5 : xT.1 60 5 = some (.if_icmp .gt 15, ((20, 0), ([], []))) := (kT_60 5).trans rfl
theorem r_60_8 : xT.1 60 8 = some (.iload_n 1, ((0, 0), ([], []))) := (kT_60 8).trans rfl
theorem r_60_9 : xT.1 60 9 = some (.aload_n 0, ((0, 0), ([], []))) := (kT_60 9).trans rfl
theorem r_60_10 : xT.1 60 10 = some (.getfield 18, ((4, 2), ([], []))) := (kT_60 10).trans rfl
theorem r_60_13 : xT.1 60 13 = some (.if_icmp .gt 7, ((20, 0), ([], []))) := (kT_60 13).trans rfl
theorem r_60_16 : xT.1 60 16 = some (.iconst 1, ((0, 0), ([.int 1], []))) := (kT_60 16).trans rfl
theorem r_60_17 : xT.1 60 17 = some (.goto 4, ((21, 0), ([], []))) := (kT_60 17).trans rfl
theorem r_60_20 : xT.1 60 20 = some (.iconst 0, ((0, 0), ([.int 0], []))) := (kT_60 20).trans rfl
theorem r_60_21 : xT.1 60 21 = some (.ireturn, ((0, 0), ([], []))) := (kT_60 21).trans rfl
theorem kT_61 (pc : Nat) : xT.1 61 pc = xfind k_61 pc := rfl
theorem r_61_0 : xT.1 61 0 = some (.aload_n 0, ((0, 0), ([], []))) := (kT_61 0).trans rfl
theorem r_61_1 : xT.1 61 1 = some (.getfield 21, ((4, 3), ([], []))) := (kT_61 1).trans rfl
theorem r_61_4 : xT.1 61 4 = some (.invokestatic 31, ((137, 1), ([], [3]))) := (kT_61 4).trans rfl
theorem r_61_7 : xT.1 61 7 = some (.ifCond .eq 23, ((30, 0), ([], []))) := (kT_61 7).trans rfl
theorem r_61_10 : xT.1 61 10 = some (.aload_n 0, ((0, 0), ([], []))) := (kT_61 10).trans rfl
theorem r_61_11 : xT.1 61 11 = some (.getfield 24, ((4, 4), ([], []))) := (kT_61 11).trans rfl
theorem r_61_14 : xT.1 61 14 = some (.bipush 10, ((0, 0), ([.int 10], []))) := (kT_61 14).trans rfl
theorem r_61_16 : xT.1 61 16 = some (.aload_n 0, ((0, 0), ([], []))) := (kT_61 16).trans rfl
theorem r_61_17 : xT.1 61 17 = some (.getfield 21, ((4, 3), ([], []))) := (kT_61 17).trans rfl
theorem r_61_20 : xT.1 61 20 = some (.isub, ((0, 0), ([], []))) := (kT_61 20).trans rfl
theorem r_61_21 : xT.1 61 21 = some (.imul, ((0, 0), ([], []))) := (kT_61 21).trans rfl
theorem r_61_22 : xT.1 61 22 = some (.aload_n 0, ((0, 0), ([], []))) := (kT_61 22).trans rfl
theorem r_61_23 : xT.1 61 23 = some (.getfield 21, ((4, 3), ([], []))) := (kT_61 23).trans rfl
theorem r_61_26 : xT.1 61 26 = some (.idiv, ((0, 0), ([], []))) := (kT_61 26).trans rfl
theorem r_61_27 : xT.1 61 27 = some (.goto 4, ((31, 0), ([], []))) := (kT_61 27).trans rfl
theorem r_61_30 : xT.1 61 30 = some (.iconst 0, ((0, 0), ([.int 0], []))) := (kT_61 30).trans rfl
theorem r_61_31 : xT.1 61 31 = some (.ireturn, ((0, 0), ([], []))) := (kT_61 31).trans rfl
theorem kT_62 (pc : Nat) : xT.1 62 pc = xfind k_62 pc := rfl
theorem r_62_0 : xT.1 62 0 = some (.aload_n 0, ((0, 0), ([], []))) := (kT_62 0).trans rfl
theorem r_62_1 : xT.1 62 1 = some (.getfield 18, ((4, 2), ([], []))) := (kT_62 1).trans rfl
theorem r_62_4 : xT.1 62 4 = some (.aload_n 0, ((0, 0), ([], []))) := (kT_62 4).trans rfl
theorem r_62_5 : xT.1 62 5 = some (.getfield 15, ((4, 1), ([], []))) := (kT_62 5).trans rfl
theorem r_62_8 : xT.1 62 8 = some (.isub, ((0, 0), ([], []))) := (kT_62 8).trans rfl
theorem r_62_9 : xT.1 62 9 = some (.istore_n 2, ((0, 0), ([], []))) := (kT_62 9).trans rfl
theorem r_62_10 : xT.1 62 10 = some (.aload_n 0, ((0, 0), ([], []))) := (kT_62 10).trans rfl
theorem r_62_11 : xT.1 62 11 = some (.getfield 21, ((4, 3), ([], []))) := (kT_62 11).trans rfl
theorem r_62_14 : xT.1 62 14 = some (.invokestatic 31, ((137, 1), ([], [3]))) := (kT_62 14).trans rfl
theorem r_62_17 : xT.1 62 17 = some (.ifCond .eq 24, ((41, 0), ([], []))) := (kT_62 17).trans rfl
theorem r_62_20 : xT.1 62 20 = some (.iload_n 2, ((0, 0), ([], []))) := (kT_62 20).trans rfl
theorem r_62_21 : xT.1 62 21 = some (.bipush 20, ((0, 0), ([.int 20], []))) := (kT_62 21).trans rfl
theorem r_62_23 : xT.1 62 23 = some (.aload_n 0, ((0, 0), ([], []))) := (kT_62 23).trans rfl
theorem r_62_24 : xT.1 62 24 = some (.iload_n 1, ((0, 0), ([], []))) := (kT_62 24).trans rfl
theorem r_62_25 : xT.1 62 25 = some (.invokevirtual 35, ((63, 2), ([], [0]))) := (kT_62 25).trans rfl
theorem r_62_28 : xT.1 62 28 = some (.imul, ((0, 0), ([], []))) := (kT_62 28).trans rfl
theorem r_62_29 : xT.1 62 29 = some (.bipush 10, ((0, 0), ([.int 10], []))) := (kT_62 29).trans rfl
theorem r_62_31 : xT.1 62 31 = some (.aload_n 0, ((0, 0), ([], []))) := (kT_62 31).trans rfl
theorem r_62_32 : xT.1 62 32 = some (.getfield 21, ((4, 3), ([], []))) := (kT_62 32).trans rfl
theorem r_62_35 : xT.1 62 35 = some (.isub, ((0, 0), ([], []))) := (kT_62 35).trans rfl
theorem r_62_36 : xT.1 62 36 = some (.idiv, ((0, 0), ([], []))) := (kT_62 36).trans rfl
theorem r_62_37 : xT.1 62 37 = some (.iadd, ((0, 0), ([], []))) := (kT_62 37).trans rfl
theorem r_62_38 : xT.1 62 38 = some (.goto 4, ((42, 0), ([], []))) := (kT_62 38).trans rfl
theorem r_62_41 : xT.1 62 41 = some (.iload_n 2, ((0, 0), ([], []))) := (kT_62 41).trans rfl
theorem r_62_42 : xT.1 62 42 = some (.ireturn, ((0, 0), ([], []))) := (kT_62 42).trans rfl
theorem kT_63 (pc : Nat) : xT.1 63 pc = xfind k_63 pc := rfl
theorem r_63_0 : xT.1 63 0 = some (.iconst 0, ((0, 0), ([.int 0], []))) := (kT_63 0).trans rfl
theorem r_63_1 : xT.1 63 1 = some (.aload_n 0, ((0, 0), ([], []))) := (kT_63 1).trans rfl
theorem r_63_2 : xT.1 63 2 = some (.getfield 15, ((4, 1), ([], []))) := (kT_63 2).trans rfl
theorem r_63_5 : xT.1 63 5 = some (.iload_n 1, ((0, 0), ([], []))) := (kT_63 5).trans rfl
theorem r_63_6 : xT.1 63 6 = some (.isub, ((0, 0), ([], []))) := (kT_63 6).trans rfl
theorem r_63_7 : xT.1 63 7 = some (.iload_n 1, ((0, 0), ([], []))) := (kT_63 7).trans rfl
theorem r_63_8 : xT.1 63 8 = some (.aload_n 0, ((0, 0), ([], []))) := (kT_63 8).trans rfl
theorem r_63_9 : xT.1 63 9 = some (.getfield 18, ((4, 2), ([], []))) := (kT_63 9).trans rfl
theorem r_63_12 : xT.1 63 12 = some (.isub, ((0, 0), ([], []))) := (kT_63 12).trans rfl
theorem r_63_13 : xT.1 63 13 = some (.invokestatic 39, ((20, 2), ([], [4]))) := (kT_63 13).trans rfl
theorem r_63_16 : xT.1 63 16 = some (.invokestatic 39, ((20, 2), ([], [4]))) := (kT_63 16).trans rfl
theorem r_63_19 : xT.1 63 19 = some (.ireturn, ((0, 0), ([], []))) := (kT_63 19).trans rfl
theorem kT_64 (pc : Nat) : xT.1 64 pc = xfind k_64 pc := rfl
theorem r_64_0 : xT.1 64 0 = some (.aload_n 0, ((0, 0), ([], []))) := (kT_64 0).trans rfl
theorem r_64_1 : xT.1 64 1 = some (.invokespecial 3, ((0, 1), ([], [5]))) := (kT_64 1).trans rfl
theorem r_64_4 : xT.1 64 4 = some (.aload_n 0, ((0, 0), ([], []))) := (kT_64 4).trans rfl
theorem r_64_5 : xT.1 64 5 = some (.bipush 9, ((0, 0), ([.int 9], []))) := (kT_64 5).trans rfl
theorem r_64_7 : xT.1 64 7 = some (.anewarray 11, ((1, 0), ([], []))) := (kT_64 7).trans rfl
theorem r_64_10 : xT.1 64 10 = some (.putfield 13, ((5, 0), ([], [2]))) := (kT_64 10).trans rfl
theorem r_64_13 : xT.1 64 13 = some (.iconst 0, ((0, 0), ([.int 0], []))) := (kT_64 13).trans rfl
theorem r_64_14 : xT.1 64 14 = some (.istore_n 1, ((0, 0), ([], []))) := (kT_64 14).trans rfl
theorem r_64_15 : xT.1 64 15 = some (.iload_n 1, ((0, 0), ([], []))) := (kT_64 15).trans rfl
theorem r_64_16 : xT.1 64 16 = some (.bipush 9, ((0, 0), ([.int 9], []))) := (kT_64 16).trans rfl
theorem r_64_18 : xT.1 64 18 = some (.if_icmp .ge 22, ((40, 0), ([], []))) := (kT_64 18).trans rfl
theorem r_64_21 : xT.1 64 21 = some (.aload_n 0, ((0, 0), ([], []))) := (kT_64 21).trans rfl
theorem r_64_22 : xT.1 64 22 = some (.getfield 13, ((5, 0), ([], []))) := (kT_64 22).trans rfl
theorem r_64_25 : xT.1 64 25 = some (.iload_n 1, ((0, 0), ([], []))) := (kT_64 25).trans rfl
theorem r_64_26 : xT.1 64 26 = some (.new 11, ((1, 9), ([.null, .null, .null, .null, .int 0, .int 0, .int 0, .int 0, .int 0], []))) := (kT_64 26).trans rfl
theorem r_64_29 : xT.1 64 29 = some (.dup, ((0, 0), ([], []))) := (kT_64 29).trans rfl
theorem r_64_30 : xT.1 64 30 = some (.invokespecial 17, ((10, 1), ([], [2]))) := (kT_64 30).trans rfl
theorem r_64_33 : xT.1 64 33 = some (.aastore, ((0, 0), ([], []))) := (kT_64 33).trans rfl
theorem r_64_34 : xT.1 64 34 = some (.iinc 1 1, ((0, 0), ([.int (1)], []))) := (kT_64 34).trans rfl
theorem r_64_37 : xT.1 64 37 = some (.goto (-22), ((15, 0), ([], []))) := (kT_64 37).trans rfl
theorem r_64_40 : xT.1 64 40 = some (.return_, ((0, 0), ([], []))) := (kT_64 40).trans rfl
theorem kT_65 (pc : Nat) : xT.1 65 pc = xfind k_65 pc := rfl
theorem r_65_0 : xT.1 65 0 = some (.aload_n 0, ((0, 0), ([], []))) := (kT_65 0).trans rfl
theorem r_65_1 : xT.1 65 1 = some (.getfield 13, ((5, 0), ([], []))) := (kT_65 1).trans rfl
theorem r_65_4 : xT.1 65 4 = some (.aload_n 0, ((0, 0), ([], []))) := (kT_65 4).trans rfl
theorem r_65_5 : xT.1 65 5 = some (.getfield 18, ((5, 1), ([], []))) := (kT_65 5).trans rfl
theorem r_65_8 : xT.1 65 8 = some (.aaload, ((0, 0), ([], []))) := (kT_65 8).trans rfl
theorem r_65_9 : xT.1 65 9 = some (.aload_n 1, ((0, 0), ([], []))) := (kT_65 9).trans rfl
theorem r_65_10 : xT.1 65 10 = some (.invokevirtual 22, ((11, 2), ([], [0]))) := (kT_65 10).trans rfl
theorem r_65_13 : xT.1 65 13 = some (.return_, ((0, 0), ([], []))) := (kT_65 13).trans rfl
theorem kT_66 (pc : Nat) : xT.1 66 pc = xfind k_66 pc := rfl
theorem r_66_0 : xT.1 66 0 = some (.aload_n 0, ((0, 0), ([], []))) := (kT_66 0).trans rfl
theorem r_66_1 : xT.1 66 1 = some (.aload_n 0, ((0, 0), ([], []))) := (kT_66 1).trans rfl
theorem r_66_2 : xT.1 66 2 = some (.getfield 18, ((5, 1), ([], []))) := (kT_66 2).trans rfl
theorem r_66_5 : xT.1 66 5 = some (.iconst 1, ((0, 0), ([.int 1], []))) := (kT_66 5).trans rfl
theorem r_66_6 : xT.1 66 6 = some (.iadd, ((0, 0), ([], []))) := (kT_66 6).trans rfl
theorem r_66_7 : xT.1 66 7 = some (.bipush 9, ((0, 0), ([.int 9], []))) := (kT_66 7).trans rfl
theorem r_66_9 : xT.1 66 9 = some (.if_icmp .ge 12, ((21, 0), ([], []))) := (kT_66 9).trans rfl
theorem r_66_12 : xT.1 66 12 = some (.aload_n 0, ((0, 0), ([], []))) := (kT_66 12).trans rfl
theorem r_66_13 : xT.1 66 13 = some (.getfield 18, ((5, 1), ([], []))) := (kT_66 13).trans rfl
theorem r_66_16 : xT.1 66 16 = some (.iconst 1, ((0, 0), ([.int 1], []))) := (kT_66 16).trans rfl
theorem r_66_17 : xT.1 66 17 = some (.iadd, ((0, 0), ([], []))) := (kT_66 17).trans rfl
theorem r_66_18 : xT.1 66 18 = some (.goto 4, ((22, 0), ([], []))) := (kT_66 18).trans rfl
theorem r_66_21 : xT.1 66 21 = some (.iconst 0, ((0, 0), ([.int 0], []))) := (kT_66 21).trans rfl
theorem r_66_22 : xT.1 66 22 = some (.putfield 18, ((5, 1), ([], [0]))) := (kT_66 22).trans rfl
theorem r_66_25 : xT.1 66 25 = some (.aload_n 0, ((0, 0), ([], []))) := (kT_66 25).trans rfl
theorem r_66_26 : xT.1 66 26 = some (.aload_n 0, ((0, 0), ([], []))) := (kT_66 26).trans rfl
theorem r_66_27 : xT.1 66 27 = some (.getfield 26, ((5, 2), ([], []))) := (kT_66 27).trans rfl
theorem r_66_30 : xT.1 66 30 = some (.iconst 1, ((0, 0), ([.int 1], []))) := (kT_66 30).trans rfl
theorem r_66_31 : xT.1 66 31 = some (.iadd, ((0, 0), ([], []))) := (kT_66 31).trans rfl
theorem r_66_32 : xT.1 66 32 = some (.bipush 8, ((0, 0), ([.int 8], []))) := (kT_66 32).trans rfl
theorem r_66_34 : xT.1 66 34 = some (.invokestatic 29, ((21, 2), ([], [4]))) := (kT_66 34).trans rfl
theorem r_66_37 : xT.1 66 37 = some (.putfield 26, ((5, 2), ([], [0]))) := (kT_66 37).trans rfl
theorem r_66_40 : xT.1 66 40 = some (.return_, ((0, 0), ([], []))) := (kT_66 40).trans rfl
theorem kT_67 (pc : Nat) : xT.1 67 pc = xfind k_67 pc := rfl
theorem r_67_0 : xT.1 67 0 = some (.aload_n 0, ((0, 0), ([], []))) := (kT_67 0).trans rfl
theorem r_67_1 : xT.1 67 1 = some (.aload_n 1, ((0, 0), ([], []))) := (kT_67 1).trans rfl
theorem r_67_2 : xT.1 67 2 = some (.invokevirtual 35, ((65, 2), ([], [0]))) := (kT_67 2).trans rfl
theorem r_67_5 : xT.1 67 5 = some (.aload_n 0, ((0, 0), ([], []))) := (kT_67 5).trans rfl
theorem r_67_6 : xT.1 67 6 = some (.invokevirtual 38, ((66, 1), ([], [0]))) := (kT_67 6).trans rfl
theorem r_67_9 : xT.1 67 9 = some (.return_, ((0, 0), ([], []))) := (kT_67 9).trans rfl
theorem kT_68 (pc : Nat) : xT.1 68 pc = xfind k_68 pc := rfl
theorem r_68_0 : xT.1 68 0 = some (.aload_n 1, ((0, 0), ([], []))) := (kT_68 0).trans rfl
theorem r_68_1 : xT.1 68 1 = some (.aload_n 0, ((0, 0), ([], []))) := (kT_68 1).trans rfl
theorem r_68_2 : xT.1 68 2 = some (.getfield 13, ((5, 0), ([], []))) := (kT_68 2).trans rfl
theorem r_68_5 : xT.1 68 5 = some (.aload_n 0, ((0, 0), ([], []))) := (kT_68 5).trans rfl
theorem r_68_6 : xT.1 68 6 = some (.getfield 18, ((5, 1), ([], []))) := (kT_68 6).trans rfl
theorem r_68_9 : xT.1 68 9 = some (.aaload, ((0, 0), ([], []))) := (kT_68 9).trans rfl
theorem r_68_10 : xT.1 68 10 = some (.invokevirtual 22, ((11, 2), ([], [0]))) := (kT_68 10).trans rfl
theorem r_68_13 : xT.1 68 13 = some (.return_, ((0, 0), ([], []))) := (kT_68 13).trans rfl
theorem kT_69 (pc : Nat) : xT.1 69 pc = xfind k_69 pc := rfl
theorem r_69_0 : xT.1 69 0 = some (.aload_n 0, ((0, 0), ([], []))) := (kT_69 0).trans rfl
theorem r_69_1 : xT.1 69 1 = some (.aload_n 0, ((0, 0), ([], []))) := (kT_69 1).trans rfl
theorem r_69_2 : xT.1 69 2 = some (.getfield 18, ((5, 1), ([], []))) := (kT_69 2).trans rfl
theorem r_69_5 : xT.1 69 5 = some (.ifCond .le 12, ((17, 0), ([], []))) := (kT_69 5).trans rfl
theorem r_69_8 : xT.1 69 8 = some (.aload_n 0, ((0, 0), ([], []))) := (kT_69 8).trans rfl
theorem r_69_9 : xT.1 69 9 = some (.getfield 18, ((5, 1), ([], []))) := (kT_69 9).trans rfl
theorem r_69_12 : xT.1 69 12 = some (.iconst 1, ((0, 0), ([.int 1], []))) := (kT_69 12).trans rfl
theorem r_69_13 : xT.1 69 13 = some (.isub, ((0, 0), ([], []))) := (kT_69 13).trans rfl
theorem r_69_14 : xT.1 69 14 = some (.goto 5, ((19, 0), ([], []))) := (kT_69 14).trans rfl
theorem r_69_17 : xT.1 69 17 = some (.bipush 8, ((0, 0), ([.int 8], []))) := (kT_69 17).trans rfl
theorem r_69_19 : xT.1 69 19 = some (.putfield 18, ((5, 1), ([], [0]))) := (kT_69 19).trans rfl
theorem r_69_22 : xT.1 69 22 = some (.aload_n 0, ((0, 0), ([], []))) := (kT_69 22).trans rfl
theorem r_69_23 : xT.1 69 23 = some (.dup, ((0, 0), ([], []))) := (kT_69 23).trans rfl
theorem r_69_24 : xT.1 69 24 = some (.getfield 26, ((5, 2), ([], []))) := (kT_69 24).trans rfl
theorem r_69_27 : xT.1 69 27 = some (.iconst 1, ((0, 0), ([.int 1], []))) := (kT_69 27).trans rfl
theorem r_69_28 : xT.1 69 28 = some (.isub, ((0, 0), ([], []))) := (kT_69 28).trans rfl
theorem r_69_29 : xT.1 69 29 = some (.putfield 26, ((5, 2), ([], [0]))) := (kT_69 29).trans rfl
theorem r_69_32 : xT.1 69 32 = some (.aload_n 0, ((0, 0), ([], []))) := (kT_69 32).trans rfl
theorem r_69_33 : xT.1 69 33 = some (.aload_n 1, ((0, 0), ([], []))) := (kT_69 33).trans rfl
theorem r_69_34 : xT.1 69 34 = some (.invokevirtual 41, ((68, 2), ([], [0]))) := (kT_69 34).trans rfl
theorem r_69_37 : xT.1 69 37 = some (.return_, ((0, 0), ([], []))) := (kT_69 37).trans rfl
theorem kT_70 (pc : Nat) : xT.1 70 pc = xfind k_70 pc := rfl
theorem r_70_0 : xT.1 70 0 = some (.aload_n 0, ((0, 0), ([], []))) := (kT_70 0).trans rfl
theorem r_70_1 : xT.1 70 1 = some (.iconst 0, ((0, 0), ([.int 0], []))) := (kT_70 1).trans rfl
theorem r_70_2 : xT.1 70 2 = some (.putfield 26, ((5, 2), ([], [0]))) := (kT_70 2).trans rfl
theorem r_70_5 : xT.1 70 5 = some (.return_, ((0, 0), ([], []))) := (kT_70 5).trans rfl
theorem kT_71 (pc : Nat) : xT.1 71 pc = xfind k_71 pc := rfl
theorem r_71_0 : xT.1 71 0 = some (.aload_n 0, ((0, 0), ([], []))) := (kT_71 0).trans rfl
theorem r_71_1 : xT.1 71 1 = some (.invokespecial 3, ((0, 1), ([], [5]))) := (kT_71 1).trans rfl
theorem r_71_4 : xT.1 71 4 = some (.aload_n 0, ((0, 0), ([], []))) := (kT_71 4).trans rfl
theorem r_71_5 : xT.1 71 5 = some (.new 9, ((0, 2), ([.null, .null], []))) := (kT_71 5).trans rfl
theorem r_71_8 : xT.1 71 8 = some (.dup, ((0, 0), ([], []))) := (kT_71 8).trans rfl
theorem r_71_9 : xT.1 71 9 = some (.invokespecial 11, ((0, 1), ([], [2]))) := (kT_71 9).trans rfl
theorem r_71_12 : xT.1 71 12 = some (.putfield 12, ((6, 0), ([], [2]))) := (kT_71 12).trans rfl
theorem r_71_15 : xT.1 71 15 = some (.return_, ((0, 0), ([], []))) := (kT_71 15).trans rfl
theorem kT_72 (pc : Nat) : xT.1 72 pc = xfind k_72 pc := rfl
theorem r_72_0 : xT.1 72 0 = some (.aload_n 0, ((0, 0), ([], []))) := (kT_72 0).trans rfl
theorem r_72_1 : xT.1 72 1 = some (.getfield 12, ((6, 0), ([], []))) := (kT_72 1).trans rfl
theorem r_72_4 : xT.1 72 4 = some (.invokevirtual 18, ((1, 1), ([], [0]))) := (kT_72 4).trans rfl
theorem r_72_7 : xT.1 72 7 = some (.aload_n 0, ((0, 0), ([], []))) := (kT_72 7).trans rfl
theorem r_72_8 : xT.1 72 8 = some (.bipush 100, ((0, 0), ([.int 100], []))) := (kT_72 8).trans rfl
theorem r_72_10 : xT.1 72 10 = some (.putfield 21, ((6, 1), ([], [0]))) := (kT_72 10).trans rfl
theorem r_72_13 : xT.1 72 13 = some (.aload_n 0, ((0, 0), ([], []))) := (kT_72 13).trans rfl
theorem r_72_14 : xT.1 72 14 = some (.iconst 0, ((0, 0), ([.int 0], []))) := (kT_72 14).trans rfl
theorem r_72_15 : xT.1 72 15 = some (.putfield 25, ((6, 2), ([], [0]))) := (kT_72 15).trans rfl
theorem r_72_18 : xT.1 72 18 = some (.aload_n 0, ((0, 0), ([], []))) := (kT_72 18).trans rfl
theorem r_72_19 : xT.1 72 19 = some (.iconst 0, ((0, 0), ([.int 0], []))) := (kT_72 19).trans rfl
theorem r_72_20 : xT.1 72 20 = some (.putfield 28, ((6, 3), ([], [1]))) := (kT_72 20).trans rfl
theorem r_72_23 : xT.1 72 23 = some (.return_, ((0, 0), ([], []))) := (kT_72 23).trans rfl
theorem kT_73 (pc : Nat) : xT.1 73 pc = xfind k_73 pc := rfl
theorem r_73_0 : xT.1 73 0 = some (.aload_n 0, ((0, 0), ([], []))) := (kT_73 0).trans rfl
theorem r_73_1 : xT.1 73 1 = some (.getfield 12, ((6, 0), ([], []))) := (kT_73 1).trans rfl
theorem r_73_4 : xT.1 73 4 = some (.aload_n 1, ((0, 0), ([], []))) := (kT_73 4).trans rfl
theorem r_73_5 : xT.1 73 5 = some (.getfield 12, ((6, 0), ([], []))) := (kT_73 5).trans rfl
theorem r_73_8 : xT.1 73 8 = some (.invokevirtual 32, ((2, 2), ([], [0]))) := (kT_73 8).trans rfl
theorem r_73_11 : xT.1 73 11 = some (.aload_n 0, ((0, 0), ([], []))) := (kT_73 11).trans rfl
theorem r_73_12 : xT.1 73 12 = some (.aload_n 1, ((0, 0), ([], []))) := (kT_73 12).trans rfl
theorem r_73_13 : xT.1 73 13 = some (.getfield 21, ((6, 1), ([], []))) := (kT_73 13).trans rfl
theorem r_73_16 : xT.1 73 16 = some (.putfield 21, ((6, 1), ([], [0]))) := (kT_73 16).trans rfl
theorem r_73_19 : xT.1 73 19 = some (.aload_n 0, ((0, 0), ([], []))) := (kT_73 19).trans rfl
theorem r_73_20 : xT.1 73 20 = some (.aload_n 1, ((0, 0), ([], []))) := (kT_73 20).trans rfl
theorem r_73_21 : xT.1 73 21 = some (.getfield 25, ((6, 2), ([], []))) := (kT_73 21).trans rfl
theorem r_73_24 : xT.1 73 24 = some (.putfield 25, ((6, 2), ([], [0]))) := (kT_73 24).trans rfl
theorem r_73_27 : xT.1 73 27 = some (.aload_n 0, ((0, 0), ([], []))) := (kT_73 27).trans rfl
theorem r_73_28 : xT.1 73 28 = some (.aload_n 1, ((0, 0), ([], []))) := (kT_73 28).trans rfl
theorem r_73_29 : xT.1 73 29 = some (.getfield 28, ((6, 3), ([], []))) := (kT_73 29).trans rfl
theorem r_73_32 : xT.1 73 32 = some (.putfield 28, ((6, 3), ([], [1]))) := (kT_73 32).trans rfl
theorem r_73_35 : xT.1 73 35 = some (.return_, ((0, 0), ([], []))) := (kT_73 35).trans rfl
theorem kT_74 (pc : Nat) : xT.1 74 pc = xfind k_74 pc := rfl
theorem r_74_0 : xT.1 74 0 = some (.aload_n 0, ((0, 0), ([], []))) := (kT_74 0).trans rfl
theorem r_74_1 : xT.1 74 1 = some (.getfield 25, ((6, 2), ([], []))) := (kT_74 1).trans rfl
theorem r_74_4 : xT.1 74 4 = some (.aload_n 1, ((0, 0), ([], []))) := (kT_74 4).trans rfl
theorem r_74_5 : xT.1 74 5 = some (.getfield 25, ((6, 2), ([], []))) := (kT_74 5).trans rfl
theorem r_74_8 : xT.1 74 8 = some (.if_icmp .eq 20, ((28, 0), ([], []))) := (kT_74 8).trans rfl
theorem r_74_11 : xT.1 74 11 = some (.aload_n 0, ((0, 0), ([], []))) := (kT_74 11).trans rfl
theorem r_74_12 : xT.1 74 12 = some (.getfield 25, ((6, 2), ([], []))) := (kT_74 12).trans rfl
theorem r_74_15 : xT.1 74 15 = some (.aload_n 1, ((0, 0), ([], []))) := (kT_74 15).trans rfl
theorem r_74_16 : xT.1 74 16 = some (.getfield 25, ((6, 2), ([], []))) := (kT_74 16).trans rfl
theorem r_74_19 : xT.1 74 19 = some (.if_icmp .ge 7, ((26, 0), ([], []))) := (kT_74 19).trans rfl
theorem r_74_22 : xT.1 74 22 = some (.iconst 1, ((0, 0), ([.int 1], []))) := (kT_74 22).trans rfl
theorem r_74_23 : xT.1 74 23 = some (.goto 4, ((27, 0), ([], []))) := (kT_74 23).trans rfl
theorem r_74_26 : xT.1 74 26 = some (.iconst 0, ((0, 0), ([.int 0], []))) := (kT_74 26).trans rfl
theorem r_74_27 : xT.1 74 27 = some (.ireturn, ((0, 0), ([], []))) := (kT_74 27).trans rfl
theorem r_74_28 : xT.1 74 28 = some (.aload_n 0, ((0, 0), ([], []))) := (kT_74 28).trans rfl
theorem r_74_29 : xT.1 74 29 = some (.getfield 12, ((6, 0), ([], []))) := (kT_74 29).trans rfl
theorem r_74_32 : xT.1 74 32 = some (.invokevirtual 36, ((7, 1), ([], [0]))) := (kT_74 32).trans rfl
theorem r_74_35 : xT.1 74 35 = some (.aload_n 1, ((0, 0), ([], []))) := (kT_74 35).trans rfl
theorem r_74_36 : xT.1 74 36 = some (.getfield 12, ((6, 0), ([], []))) := (kT_74 36).trans rfl
theorem r_74_39 : xT.1 74 39 = some (.invokevirtual 36, ((7, 1), ([], [0]))) := (kT_74 39).trans rfl
theorem r_74_42 : xT.1 74 42 = some (.if_icmp .le 7, ((49, 0), ([], []))) := (kT_74 42).trans rfl
theorem r_74_45 : xT.1 74 45 = some (.iconst 1, ((0, 0), ([.int 1], []))) := (kT_74 45).trans rfl
theorem r_74_46 : xT.1 74 46 = some (.goto 4, ((50, 0), ([], []))) := (kT_74 46).trans rfl
theorem r_74_49 : xT.1 74 49 = some (.iconst 0, ((0, 0), ([.int 0], []))) := (kT_74 49).trans rfl
theorem r_74_50 : xT.1 74 50 = some (.ireturn, ((0, 0), ([], []))) := (kT_74 50).trans rfl
theorem kT_75 (pc : Nat) : xT.1 75 pc = xfind k_75 pc := rfl
theorem r_75_0 : xT.1 75 0 = some (.aload_n 0, ((0, 0), ([], []))) := (kT_75 0).trans rfl
theorem r_75_1 : xT.1 75 1 = some (.invokespecial 3, ((0, 1), ([], [5]))) := (kT_75 1).trans rfl
theorem r_75_4 : xT.1 75 4 = some (.aload_n 0, ((0, 0), ([], []))) := (kT_75 4).trans rfl
theorem r_75_5 : xT.1 75 5 = some (.iconst 5, ((0, 0), ([.int 5], []))) := (kT_75 5).trans rfl
theorem r_75_6 : xT.1 75 6 = some (.anewarray 9, ((4, 0), ([], []))) := (kT_75 6).trans rfl
theorem r_75_9 : xT.1 75 9 = some (.putfield 11, ((7, 0), ([], [2]))) := (kT_75 9).trans rfl
theorem r_75_12 : xT.1 75 12 = some (.iconst 0, ((0, 0), ([.int 0], []))) := (kT_75 12).trans rfl
theorem r_75_13 : xT.1 75 13 = some (.istore_n 1, ((0, 0), ([], []))) := (kT_75 13).trans rfl
theorem r_75_14 : xT.1 75 14 = some (.iload_n 1, ((0, 0), ([], []))) := (kT_75 14).trans rfl
theorem r_75_15 : xT.1 75 15 = some (.iconst 5, ((0, 0), ([.int 5], []))) := (kT_75 15).trans rfl
theorem r_75_16 : xT.1 75 16 = some (.if_icmp .ge 22, ((38, 0), ([], []))) := (kT_75 16).trans rfl
theorem r_75_19 : xT.1 75 19 = some (.aload_n 0, ((0, 0), ([], []))) := (kT_75 19).trans rfl
theorem r_75_20 : xT.1 75 20 = some (.getfield 11, ((7, 0), ([], []))) := (kT_75 20).trans rfl
theorem r_75_23 : xT.1 75 23 = some (.iload_n 1, ((0, 0), ([], []))) := (kT_75 23).trans rfl
theorem r_75_24 : xT.1 75 24 = some (.new 9, ((4, 5), ([.int 0, .int 0, .int 0, .int 0, .int 0], []))) := (kT_75 24).trans rfl
theorem r_75_27 : xT.1 75 27 = some (.dup, ((0, 0), ([], []))) := (kT_75 27).trans rfl
theorem r_75_28 : xT.1 75 28 = some (.invokespecial 17, ((57, 1), ([], [2]))) := (kT_75 28).trans rfl
theorem r_75_31 : xT.1 75 31 = some (.aastore, ((0, 0), ([], []))) := (kT_75 31).trans rfl
theorem r_75_32 : xT.1 75 32 = some (.iinc 1 1, ((0, 0), ([.int (1)], []))) := (kT_75 32).trans rfl
theorem r_75_35 : xT.1 75 35 = some (.goto (-21), ((14, 0), ([], []))) := (kT_75 35).trans rfl
theorem r_75_38 : xT.1 75 38 = some (.return_, ((0, 0), ([], []))) := (kT_75 38).trans rfl
theorem kT_76 (pc : Nat) : xT.1 76 pc = xfind k_76 pc := rfl
theorem r_76_0 : xT.1 76 0 = some (.aload_n 0, ((0, 0), ([], []))) := (kT_76 0).trans rfl
theorem r_76_1 : xT.1 76 1 = some (.iload_n 1, ((0, 0), ([], []))) := (kT_76 1).trans rfl
theorem r_76_2 : xT.1 76 2 = some (.putfield 18, ((7, 1), ([], [0]))) := (kT_76 2).trans rfl
theorem r_76_5 : xT.1 76 5 = some (.aload_n 0, ((0, 0), ([], []))) := (kT_76 5).trans rfl
theorem r_76_6 : xT.1 76 6 = some (.iload_n 2, ((0, 0), ([], []))) := (kT_76 6).trans rfl
theorem r_76_7 : xT.1 76 7 = some (.putfield 22, ((7, 2), ([], [0]))) := (kT_76 7).trans rfl
theorem r_76_10 : xT.1 76 10 = some (.aload_n 0, ((0, 0), ([], []))) := (kT_76 10).trans rfl
theorem r_76_11 : xT.1 76 11 = some (.iconst 0, ((0, 0), ([.int 0], []))) := (kT_76 11).trans rfl
theorem r_76_12 : xT.1 76 12 = some (.putfield 25, ((7, 3), ([], [0]))) := (kT_76 12).trans rfl
theorem r_76_15 : xT.1 76 15 = some (.return_, ((0, 0), ([], []))) := (kT_76 15).trans rfl
theorem kT_77 (pc : Nat) : xT.1 77 pc = xfind k_77 pc := rfl
theorem r_77_0 : xT.1 77 0 = some (.aload_n 0, ((0, 0), ([], []))) := (kT_77 0).trans rfl
theorem r_77_1 : xT.1 77 1 = some (.aload_n 1, ((0, 0), ([], []))) := (kT_77 1).trans rfl
theorem r_77_2 : xT.1 77 2 = some (.getfield 18, ((7, 1), ([], []))) := (kT_77 2).trans rfl
theorem r_77_5 : xT.1 77 5 = some (.aload_n 1, ((0, 0), ([], []))) := (kT_77 5).trans rfl
theorem r_77_6 : xT.1 77 6 = some (.getfield 22, ((7, 2), ([], []))) := (kT_77 6).trans rfl
theorem r_77_9 : xT.1 77 9 = some (.invokevirtual 28, ((76, 3), ([], [0]))) := (kT_77 9).trans rfl
theorem r_77_12 : xT.1 77 12 = some (.aload_n 0, ((0, 0), ([], []))) := (kT_77 12).trans rfl
theorem r_77_13 : xT.1 77 13 = some (.aload_n 1, ((0, 0), ([], []))) := (kT_77 13).trans rfl
theorem r_77_14 : xT.1 77 14 = some (.getfield 25, ((7, 3), ([], []))) := (kT_77 14).trans rfl
theorem r_77_17 : xT.1 77 17 = some (.putfield 25, ((7, 3), ([], [0]))) := (kT_77 17).trans rfl
theorem r_77_20 : xT.1 77 20 = some (.iconst 0, ((0, 0), ([.int 0], []))) := (kT_77 20).trans rfl
theorem r_77_21 : xT.1 77 21 = some (.istore_n 2, ((0, 0), ([], []))) := (kT_77 21).trans rfl
theorem r_77_22 : xT.1 77 22 = some (.iload_n 2, ((0, 0), ([], []))) := (kT_77 22).trans rfl
theorem r_77_23 : xT.1 77 23 = some (.aload_n 0, ((0, 0), ([], []))) := (kT_77 23).trans rfl
theorem r_77_24 : xT.1 77 24 = some (.getfield 25, ((7, 3), ([], []))) := (kT_77 24).trans rfl
theorem r_77_27 : xT.1 77 27 = some (.if_icmp .ge 24, ((51, 0), ([], []))) := (kT_77 27).trans rfl
theorem r_77_30 : xT.1 77 30 = some (.aload_n 0, ((0, 0), ([], []))) := (kT_77 30).trans rfl
theorem r_77_31 : xT.1 77 31 = some (.getfield 11, ((7, 0), ([], []))) := (kT_77 31).trans rfl
theorem r_77_34 : xT.1 77 34 = some (.iload_n 2, ((0, 0), ([], []))) := (kT_77 34).trans rfl
theorem r_77_35 : xT.1 77 35 = some (.aaload, ((0, 0), ([], []))) := (kT_77 35).trans rfl
theorem r_77_36 : xT.1 77 36 = some (.aload_n 1, ((0, 0), ([], []))) := (kT_77 36).trans rfl
theorem r_77_37 : xT.1 77 37 = some (.getfield 11, ((7, 0), ([], []))) := (kT_77 37).trans rfl
theorem r_77_40 : xT.1 77 40 = some (.iload_n 2, ((0, 0), ([], []))) := (kT_77 40).trans rfl
theorem r_77_41 : xT.1 77 41 = some (.aaload, ((0, 0), ([], []))) := (kT_77 41).trans rfl
theorem r_77_42 : xT.1 77 42 = some (.invokevirtual 32, ((59, 2), ([], [0]))) := (kT_77 42).trans rfl
theorem r_77_45 : xT.1 77 45 = some (.iinc 2 1, ((0, 0), ([.int (1)], []))) := (kT_77 45).trans rfl
theorem r_77_48 : xT.1 77 48 = some (.goto (-26), ((22, 0), ([], []))) := (kT_77 48).trans rfl
theorem r_77_51 : xT.1 77 51 = some (.return_, ((0, 0), ([], []))) := (kT_77 51).trans rfl
theorem kT_78 (pc : Nat) : xT.1 78 pc = xfind k_78 pc := rfl
theorem r_78_0 : xT.1 78 0 = some (.iconst 0, ((0, 0), ([.int 0], []))) := (kT_78 0).trans rfl
theorem r_78_1 : xT.1 78 1 = some (.istore_n 2, ((0, 0), ([], []))) := (kT_78 1).trans rfl
theorem r_78_2 : xT.1 78 2 = some (.iload_n 2, ((0, 0), ([], []))) := (kT_78 2).trans rfl
theorem r_78_3 : xT.1 78 3 = some (.aload_n 0, ((0, 0), ([], []))) := (kT_78 3).trans rfl
theorem r_78_4 : xT.1 78 4 = some (.getfield 25, ((7, 3), ([], []))) := (kT_78 4).trans rfl
theorem r_78_7 : xT.1 78 7 = some (.if_icmp .ge 24, ((31, 0), ([], []))) := (kT_78 7).trans rfl
theorem r_78_10 : xT.1 78 10 = some (.aload_n 0, ((0, 0), ([], []))) := (kT_78 10).trans rfl
theorem r_78_11 : xT.1 78 11 = some (.getfield 11, ((7, 0), ([], []))) := (kT_78 11).trans rfl
theorem r_78_14 : xT.1 78 14 = some (.iload_n 2, ((0, 0), ([], []))) := (kT_78 14).trans rfl
theorem r_78_15 : xT.1 78 15 = some (.aaload, ((0, 0), ([], []))) := (kT_78 15).trans rfl
theorem r_78_16 : xT.1 78 16 = some (.getfield 36, ((4, 0), ([], []))) := (kT_78 16).trans rfl
theorem r_78_19 : xT.1 78 19 = some (.iload_n 1, ((0, 0), ([], []))) := (kT_78 19).trans rfl
theorem r_78_20 : xT.1 78 20 = some (.if_icmp .ne 5, ((25, 0), ([], []))) := (kT_78 20).trans rfl
theorem r_78_23 : xT.1 78 23 = some (.iload_n 2, ((0, 0), ([], []))) := (kT_78 23).trans rfl
theorem r_78_24 : xT.1 78 24 = some (.ireturn, ((0, 0), ([], []))) := (kT_78 24).trans rfl
theorem r_78_25 : xT.1 78 25 = some (.iinc 2 1, ((0, 0), ([.int (1)], []))) := (kT_78 25).trans rfl
theorem r_78_28 : xT.1 78 28 = some (.goto (-26), ((2, 0), ([], []))) := (kT_78 28).trans rfl
theorem r_78_31 : xT.1 78 31 = some (.iconst (-1), ((0, 0), ([.int (-1)], []))) := (kT_78 31).trans rfl
theorem r_78_32 : xT.1 78 32 = some (.ireturn, ((0, 0), ([], []))) := (kT_78 32).trans rfl
theorem kT_79 (pc : Nat) : xT.1 79 pc = xfind k_79 pc := rfl
theorem r_79_0 : xT.1 79 0 = some (.aload_n 0, ((0, 0), ([], []))) := (kT_79 0).trans rfl
theorem r_79_1 : xT.1 79 1 = some (.getfield 25, ((7, 3), ([], []))) := (kT_79 1).trans rfl
theorem r_79_4 : xT.1 79 4 = some (.iconst 5, ((0, 0), ([.int 5], []))) := (kT_79 4).trans rfl
theorem r_79_5 : xT.1 79 5 = some (.if_icmp .ge 32, ((37, 0), ([], []))) := (kT_79 5).trans rfl
theorem r_79_8 : xT.1 79 8 = some (.aload_n 0, ((0, 0), ([], []))) := (kT_79 8).trans rfl
theorem r_79_9 : xT.1 79 9 = some (.getfield 11, ((7, 0), ([], []))) := (kT_79 9).trans rfl
theorem r_79_12 : xT.1 79 12 = some (.aload_n 0, ((0, 0), ([], []))) := (kT_79 12).trans rfl
theorem r_79_13 : xT.1 79 13 = some (.getfield 25, ((7, 3), ([], []))) := (kT_79 13).trans rfl
theorem r_79_16 : xT.1 79 16 = some (.aaload, ((0, 0), ([], []))) := (kT_79 16).trans rfl
theorem r_79_17 : xT.1 79 17 = some (.iload_n 1, ((0, 0), ([], []))) := (kT_79 17).trans rfl
theorem r_79_18 : xT.1 79 18 = some (.iload_n 2, ((0, 0), ([], []))) := (kT_79 18).trans rfl
theorem r_79_19 : xT.1 79 19 = some (.iload_n 3, ((0, 0), ([], []))) := (kT_79 19).trans rfl
theorem r_79_20 : xT.1 79 20 = some (.iload 4, ((0, 0), ([], []))) := (kT_79 20).trans rfl
theorem r_79_22 : xT.1 79 22 = some (.iload 5, ((0, 0), ([], []))) := (kT_79 22).trans rfl
theorem r_79_24 : xT.1 79 24 = some (.invokevirtual 39, ((58, 6), ([], [0]))) := (kT_79 24).trans rfl
theorem r_79_27 : xT.1 79 27 = some (.aload_n 0, ((0, 0), ([], []))) := (kT_79 27).trans rfl
theorem r_79_28 : xT.1 79 28 = some (.dup, ((0, 0), ([], []))) := (kT_79 28).trans rfl
theorem r_79_29 : xT.1 79 29 = some (.getfield 25, ((7, 3), ([], []))) := (kT_79 29).trans rfl
theorem r_79_32 : xT.1 79 32 = some (.iconst 1, ((0, 0), ([.int 1], []))) := (kT_79 32).trans rfl
theorem r_79_33 : xT.1 79 33 = some (.iadd, ((0, 0), ([], []))) := (kT_79 33).trans rfl
theorem r_79_34 : xT.1 79 34 = some (.putfield 25, ((7, 3), ([], [0]))) := (kT_79 34).trans rfl
theorem r_79_37 : xT.1 79 37 = some (.return_, ((0, 0), ([], []))) := (kT_79 37).trans rfl
theorem kT_80 (pc : Nat) : xT.1 80 pc = xfind k_80 pc := rfl
theorem r_80_0 : xT.1 80 0 = some (.aload_n 0, ((0, 0), ([], []))) := (kT_80 0).trans rfl
theorem r_80_1 : xT.1 80 1 = some (.getfield 11, ((7, 0), ([], []))) := (kT_80 1).trans rfl
theorem r_80_4 : xT.1 80 4 = some (.iload_n 1, ((0, 0), ([], []))) := (kT_80 4).trans rfl
theorem r_80_5 : xT.1 80 5 = some (.aaload, ((0, 0), ([], []))) := (kT_80 5).trans rfl
theorem r_80_6 : xT.1 80 6 = some (.astore_n 2, ((0, 0), ([], []))) := (kT_80 6).trans rfl
theorem r_80_7 : xT.1 80 7 = some (.iload_n 1, ((0, 0), ([], []))) := (kT_80 7).trans rfl
theorem r_80_8 : xT.1 80 8 = some (.iconst 1, ((0, 0), ([.int 1], []))) := (kT_80 8).trans rfl
theorem r_80_9 : xT.1 80 9 = some (.iadd, ((0, 0), ([], []))) := (kT_80 9).trans rfl
theorem r_80_10 : xT.1 80 10 = some (.istore_n 3, ((0, 0), ([], []))) := (kT_80 10).trans rfl
theorem r_80_11 : xT.1 80 11 = some (.iload_n 3, ((0, 0), ([], []))) := (kT_80 11).trans rfl
theorem r_80_12 : xT.1 80 12 = some (.aload_n 0, ((0, 0), ([], []))) := (kT_80 12).trans rfl
theorem r_80_13 : xT.1 80 13 = some (.getfield 25, ((7, 3), ([], []))) := (kT_80 13).trans rfl
theorem r_80_16 : xT.1 80 16 = some (.if_icmp .ge 23, ((39, 0), ([], []))) := (kT_80 16).trans rfl
theorem r_80_19 : xT.1 80 19 = some (.aload_n 0, ((0, 0), ([], []))) := (kT_80 19).trans rfl
theorem r_80_20 : xT.1 80 20 = some (.getfield 11, ((7, 0), ([], []))) := (kT_80 20).trans rfl
theorem r_80_23 : xT.1 80 23 = some (.iload_n 3, ((0, 0), ([], []))) := (kT_80 23).trans rfl
theorem r_80_24 : xT.1 80 24 = some (.iconst 1, ((0, 0), ([.int 1], []))) := (kT_80 24).trans rfl
theorem r_80_25 : xT.1 80 25 = some (.isub, ((0, 0), ([], []))) := (kT_80 25).trans rfl
theorem r_80_26 : xT.1 80 26 = some (.aload_n 0, ((0, 0), ([], []))) := (kT_80 26).trans rfl
theorem r_80_27 : xT.1 80 27 = some (.getfield 11, ((7, 0), ([], []))) := (kT_80 27).trans rfl
theorem r_80_30 : xT.1 80 30 = some (.iload_n 3, ((0, 0), ([], []))) := (kT_80 30).trans rfl
theorem r_80_31 : xT.1 80 31 = some (.aaload, ((0, 0), ([], []))) := (kT_80 31).trans rfl
theorem r_80_32 : xT.1 80 32 = some (.aastore, ((0, 0), ([], []))) := (kT_80 32).trans rfl
theorem r_80_33 : xT.1 80 33 = some (.iinc 3 1, ((0, 0), ([.int (1)], []))) := (kT_80 33).trans rfl
theorem r_80_36 : xT.1 80 36 = some (.goto (-25), ((11, 0), ([], []))) := (kT_80 36).trans rfl
theorem r_80_39 : xT.1 80 39 = some (.aload_n 0, ((0, 0), ([], []))) := (kT_80 39).trans rfl
theorem r_80_40 : xT.1 80 40 = some (.getfield 11, ((7, 0), ([], []))) := (kT_80 40).trans rfl
theorem r_80_43 : xT.1 80 43 = some (.aload_n 0, ((0, 0), ([], []))) := (kT_80 43).trans rfl
theorem r_80_44 : xT.1 80 44 = some (.getfield 25, ((7, 3), ([], []))) := (kT_80 44).trans rfl
theorem r_80_47 : xT.1 80 47 = some (.iconst 1, ((0, 0), ([.int 1], []))) := (kT_80 47).trans rfl
theorem r_80_48 : xT.1 80 48 = some (.isub, ((0, 0), ([], []))) := (kT_80 48).trans rfl
theorem r_80_49 : xT.1 80 49 = some (.aload_n 2, ((0, 0), ([], []))) := (kT_80 49).trans rfl
theorem r_80_50 : xT.1 80 50 = some (.aastore, ((0, 0), ([], []))) := (kT_80 50).trans rfl
theorem r_80_51 : xT.1 80 51 = some (.aload_n 0, ((0, 0), ([], []))) := (kT_80 51).trans rfl
theorem r_80_52 : xT.1 80 52 = some (.dup, ((0, 0), ([], []))) := (kT_80 52).trans rfl
theorem r_80_53 : xT.1 80 53 = some (.getfield 25, ((7, 3), ([], []))) := (kT_80 53).trans rfl
theorem r_80_56 : xT.1 80 56 = some (.iconst 1, ((0, 0), ([.int 1], []))) := (kT_80 56).trans rfl
theorem r_80_57 : xT.1 80 57 = some (.isub, ((0, 0), ([], []))) := (kT_80 57).trans rfl
theorem r_80_58 : xT.1 80 58 = some (.putfield 25, ((7, 3), ([], [0]))) := (kT_80 58).trans rfl
theorem r_80_61 : xT.1 80 61 = some (.return_, ((0, 0), ([], []))) := (kT_80 61).trans rfl
theorem kT_81 (pc : Nat) : xT.1 81 pc = xfind k_81 pc := rfl
theorem r_81_0 : xT.1 81 0 = some (.iconst 0, ((0, 0), ([.int 0], []))) := (kT_81 0).trans rfl
theorem r_81_1 : xT.1 81 1 = some (.istore_n 2, ((0, 0), ([], []))) := (kT_81 1).trans rfl
theorem r_81_2 : xT.1 81 2 = some (.iconst 0, ((0, 0), ([.int 0], []))) := (kT_81 2).trans rfl
theorem r_81_3 : xT.1 81 3 = some (.istore_n 3, ((0, 0), ([], []))) := (kT_81 3).trans rfl
theorem r_81_4 : xT.1 81 4 = some (.iload_n 3, ((0, 0), ([], []))) := (kT_81 4).trans rfl
theorem r_81_5 : xT.1 81 5 = some (.aload_n 0, ((0, 0), ([], []))) := (kT_81 5).trans rfl
theorem r_81_6 : xT.1 81 6 = some (.getfield 25, ((7, 3), ([], []))) := (kT_81 6).trans rfl
theorem r_81_9 : xT.1 81 9 = some (.if_icmp .ge 25, ((34, 0), ([], []))) := (kT_81 9).trans rfl
theorem r_81_12 : xT.1 81 12 = some (.aload_n 0, ((0, 0), ([], []))) := (kT_81 12).trans rfl
theorem r_81_13 : xT.1 81 13 = some (.getfield 11, ((7, 0), ([], []))) := (kT_81 13).trans rfl
theorem r_81_16 : xT.1 81 16 = some (.iload_n 3, ((0, 0), ([], []))) := (kT_81 16).trans rfl
theorem r_81_17 : xT.1 81 17 = some (.aaload, ((0, 0), ([], []))) := (kT_81 17).trans rfl
theorem r_81_18 : xT.1 81 18 = some (.iload_n 1, ((0, 0), ([], []))) := (kT_81 18).trans rfl
theorem r_81_19 : xT.1 81 19 = some (.invokevirtual 43, ((60, 2), ([], [0]))) := (kT_81 19).trans rfl
theorem r_81_22 : xT.1 81 22 = some (.ifCond .eq 6, ((28, 0), ([], []))) := (kT_81 22).trans rfl
theorem r_81_25 : xT.1 81 25 = some (.iinc 2 1, ((0, 0), ([.int (1)], []))) := (kT_81 25).trans rfl
theorem r_81_28 : xT.1 81 28 = some (.iinc 3 1, ((0, 0), ([.int (1)], []))) := (kT_81 28).trans rfl
theorem r_81_31 : xT.1 81 31 = some (.goto (-27), ((4, 0), ([], []))) := (kT_81 31).trans rfl
theorem r_81_34 : xT.1 81 34 = some (.iload_n 2, ((0, 0), ([], []))) := (kT_81 34).trans rfl
theorem r_81_35 : xT.1 81 35 = some (.ireturn, ((0, 0), ([], []))) := (kT_81 35).trans rfl
theorem kT_82 (pc : Nat) : xT.1 82 pc = xfind k_82 pc := rfl
theorem r_82_0 : xT.1 82 0 = some (.iconst 0, ((0, 0), ([.int 0], []))) := (kT_82 0).trans rfl
theorem r_82_1 : xT.1 82 1 = some (.istore_n 1, ((0, 0), ([], []))) := (kT_82 1).trans rfl
theorem r_82_2 : xT.1 82 2 = some (.iconst 0, ((0, 0), ([.int 0], []))) := (kT_82 2).trans rfl
theorem r_82_3 : xT.1 82 3 = some (.istore_n 2, ((0, 0), ([], []))) := (kT_82 3).trans rfl
theorem r_82_4 : xT.1 82 4 = some (.iload_n 2, ((0, 0), ([], []))) := (kT_82 4).trans rfl
theorem r_82_5 : xT.1 82 5 = some (.aload_n 0, ((0, 0), ([], []))) := (kT_82 5).trans rfl
theorem r_82_6 : xT.1 82 6 = some (.getfield 25, ((7, 3), ([], []))) := (kT_82 6).trans rfl
theorem r_82_9 : xT.1 82 9 = some (.if_icmp .ge 21, ((30, 0), ([], []))) := (kT_82 9).trans rfl
theorem r_82_12 : xT.1 82 12 = some (.iload_n 1, ((0, 0), ([], []))) := (kT_82 12).trans rfl
theorem r_82_13 : xT.1 82 13 = some (.aload_n 0, ((0, 0), ([], []))) := (kT_82 13).trans rfl
theorem r_82_14 : xT.1 82 14 = some (.getfield 11, ((7, 0), ([], []))) := (kT_82 14).trans rfl
theorem r_82_17 : xT.1 82 17 = some (.iload_n 2, ((0, 0), ([], []))) := (kT_82 17).trans rfl
theorem r_82_18 : xT.1 82 18 = some (.aaload, ((0, 0), ([], []))) := (kT_82 18).trans rfl
theorem r_82_19 : xT.1 82 19 = some (.getfield 47, ((4, 4), ([], []))) := (kT_82 19).trans rfl
theorem r_82_22 : xT.1 82 22 = some (.iadd, ((0, 0), ([], []))) := (kT_82 22).trans rfl
theorem r_82_23 : xT.1 82 23 = some (.istore_n 1, ((0, 0), ([], []))) := (kT_82 23).trans rfl
theorem r_82_24 : xT.1 82 24 = some (.iinc 2 1, ((0, 0), ([.int (1)], []))) := (kT_82 24).trans rfl
theorem r_82_27 : xT.1 82 27 = some (.goto (-23), ((4, 0), ([], []))) := (kT_82 27).trans rfl
theorem r_82_30 : xT.1 82 30 = some (.iload_n 1, ((0, 0), ([], []))) := (kT_82 30).trans rfl
theorem r_82_31 : xT.1 82 31 = some (.ireturn, ((0, 0), ([], []))) := (kT_82 31).trans rfl
theorem kT_83 (pc : Nat) : xT.1 83 pc = xfind k_83 pc := rfl
theorem r_83_0 : xT.1 83 0 = some (.aload_n 0, ((0, 0), ([], []))) := (kT_83 0).trans rfl
theorem r_83_1 : xT.1 83 1 = some (.invokespecial 1, ((0, 1), ([], [5]))) := (kT_83 1).trans rfl
theorem r_83_4 : xT.1 83 4 = some (.aload_n 0, ((0, 0), ([], []))) := (kT_83 4).trans rfl
theorem r_83_5 : xT.1 83 5 = some (.new 7, ((1, 9), ([.null, .null, .null, .null, .int 0, .int 0, .int 0, .int 0, .int 0], []))) := (kT_83 5).trans rfl
theorem r_83_8 : xT.1 83 8 = some (.dup, ((0, 0), ([], []))) := (kT_83 8).trans rfl
theorem r_83_9 : xT.1 83 9 = some (.invokespecial 9, ((10, 1), ([], [2]))) := (kT_83 9).trans rfl
theorem r_83_12 : xT.1 83 12 = some (.putfield 10, ((8, 0), ([], [2]))) := (kT_83 12).trans rfl
theorem r_83_15 : xT.1 83 15 = some (.aload_n 0, ((0, 0), ([], []))) := (kT_83 15).trans rfl
theorem r_83_16 : xT.1 83 16 = some (.new 7, ((1, 9), ([.null, .null, .null, .null, .int 0, .int 0, .int 0, .int 0, .int 0], []))) := (kT_83 16).trans rfl
theorem r_83_19 : xT.1 83 19 = some (.dup, ((0, 0), ([], []))) := (kT_83 19).trans rfl
theorem r_83_20 : xT.1 83 20 = some (.invokespecial 9, ((10, 1), ([], [2]))) := (kT_83 20).trans rfl
theorem r_83_23 : xT.1 83 23 = some (.putfield 16, ((8, 1), ([], [2]))) := (kT_83 23).trans rfl
theorem r_83_26 : xT.1 83 26 = some (.aload_n 0, ((0, 0), ([], []))) := (kT_83 26).trans rfl
theorem r_83_27 : xT.1 83 27 = some (.new 19, ((5, 3), ([.null, .int 0, .int 0], []))) := (kT_83 27).trans rfl
theorem r_83_30 : xT.1 83 30 = some (.dup, ((0, 0), ([], []))) := (kT_83 30).trans rfl
theorem r_83_31 : xT.1 83 31 = some (.invokespecial 21, ((64, 1), ([], [2]))) := (kT_83 31).trans rfl
theorem r_83_34 : xT.1 83 34 = some (.putfield 22, ((8, 2), ([], [2]))) := (kT_83 34).trans rfl
theorem r_83_37 : xT.1 83 37 = some (.aload_n 0, ((0, 0), ([], []))) := (kT_83 37).trans rfl
theorem r_83_38 : xT.1 83 38 = some (.new 26, ((3, 3), ([.null, .null, .null], []))) := (kT_83 38).trans rfl
theorem r_83_41 : xT.1 83 41 = some (.dup, ((0, 0), ([], []))) := (kT_83 41).trans rfl
theorem r_83_42 : xT.1 83 42 = some (.invokespecial 28, ((48, 1), ([], [2]))) := (kT_83 42).trans rfl
theorem r_83_45 : xT.1 83 45 = some (.putfield 29, ((8, 3), ([], [2]))) := (kT_83 45).trans rfl
theorem r_83_48 : xT.1 83 48 = some (.aload_n 0, ((0, 0), ([], []))) := (kT_83 48).trans rfl
theorem r_83_49 : xT.1 83 49 = some (.new 33, ((2, 5), ([.null, .null, .int 0, .int 0, .int 0], []))) := (kT_83 49).trans rfl
theorem r_83_52 : xT.1 83 52 = some (.dup, ((0, 0), ([], []))) := (kT_83 52).trans rfl
theorem r_83_53 : xT.1 83 53 = some (.invokespecial 35, ((35, 1), ([], [2]))) := (kT_83 53).trans rfl
theorem r_83_56 : xT.1 83 56 = some (.putfield 36, ((8, 4), ([], [2]))) := (kT_83 56).trans rfl
theorem r_83_59 : xT.1 83 59 = some (.aload_n 0, ((0, 0), ([], []))) := (kT_83 59).trans rfl
theorem r_83_60 : xT.1 83 60 = some (.new 40, ((10, 4), ([.null, .int 0, .int 0, .int 0], []))) := (kT_83 60).trans rfl
theorem r_83_63 : xT.1 83 63 = some (.dup, ((0, 0), ([], []))) := (kT_83 63).trans rfl
theorem r_83_64 : xT.1 83 64 = some (.invokespecial 42, ((292, 1), ([], [2]))) := (kT_83 64).trans rfl
theorem r_83_67 : xT.1 83 67 = some (.putfield 43, ((8, 5), ([], [2]))) := (kT_83 67).trans rfl
theorem r_83_70 : xT.1 83 70 = some (.aload_n 0, ((0, 0), ([], []))) := (kT_83 70).trans rfl
theorem r_83_71 : xT.1 83 71 = some (.iconst 0, ((0, 0), ([.int 0], []))) := (kT_83 71).trans rfl
theorem r_83_72 : xT.1 83 72 = some (.putfield 47, ((8, 6), ([], [1]))) := (kT_83 72).trans rfl
theorem r_83_75 : xT.1 83 75 = some (.aload_n 0, ((0, 0), ([], []))) := (kT_83 75).trans rfl
theorem r_83_76 : xT.1 83 76 = some (.iconst (-1), ((0, 0), ([.int (-1)], []))) := (kT_83 76).trans rfl
theorem r_83_77 : xT.1 83 77 = some (.putfield 51, ((8, 7), ([], [0]))) := (kT_83 77).trans rfl
theorem r_83_80 : xT.1 83 80 = some (.aload_n 0, ((0, 0), ([], []))) := (kT_83 80).trans rfl
theorem r_83_81 : xT.1 83 81 = some (.iconst (-1), ((0, 0), ([.int (-1)], []))) := (kT_83 81).trans rfl
theorem r_83_82 : xT.1 83 82 = some (.putfield 55, ((8, 8), ([], [0]))) := (kT_83 82).trans rfl
theorem r_83_85 : xT.1 83 85 = some (.return_, ((0, 0), ([], []))) := (kT_83 85).trans rfl
theorem kT_84 (pc : Nat) : xT.1 84 pc = xfind k_84 pc := rfl
theorem r_84_0 : xT.1 84 0 = some (.aload_n 0, ((0, 0), ([], []))) := (kT_84 0).trans rfl
theorem r_84_1 : xT.1 84 1 = some (.getfield 10, ((8, 0), ([], []))) := (kT_84 1).trans rfl
theorem r_84_4 : xT.1 84 4 = some (.invokevirtual 58, ((14, 1), ([], [0]))) := (kT_84 4).trans rfl
theorem r_84_7 : xT.1 84 7 = some (.invokestatic 62, ((135, 1), ([], [1]))) := (kT_84 7).trans rfl
theorem r_84_10 : xT.1 84 10 = some (.aload_n 0, ((0, 0), ([], []))) := (kT_84 10).trans rfl
theorem r_84_11 : xT.1 84 11 = some (.getfield 22, ((8, 2), ([], []))) := (kT_84 11).trans rfl
theorem r_84_14 : xT.1 84 14 = some (.aload_n 0, ((0, 0), ([], []))) := (kT_84 14).trans rfl
theorem r_84_15 : xT.1 84 15 = some (.getfield 10, ((8, 0), ([], []))) := (kT_84 15).trans rfl
theorem r_84_18 : xT.1 84 18 = some (.invokevirtual 66, ((67, 2), ([], [0]))) := (kT_84 18).trans rfl
theorem r_84_21 : xT.1 84 21 = some (.aload_n 0, ((0, 0), ([], []))) := (kT_84 21).trans rfl
theorem r_84_22 : xT.1 84 22 = some (.getfield 10, ((8, 0), ([], []))) := (kT_84 22).trans rfl
theorem r_84_25 : xT.1 84 25 = some (.invokevirtual 70, ((15, 1), ([], [0]))) := (kT_84 25).trans rfl
theorem r_84_28 : xT.1 84 28 = some (.ireturn, ((0, 0), ([], []))) := (kT_84 28).trans rfl
theorem kT_85 (pc : Nat) : xT.1 85 pc = xfind k_85 pc := rfl
theorem r_85_0 : xT.1 85 0 = some (.aload_n 0, ((0, 0), ([], []))) := (kT_85 0).trans rfl
theorem r_85_1 : xT.1 85 1 = some (.getfield 10, ((8, 0), ([], []))) := (kT_85 1).trans rfl
theorem r_85_4 : xT.1 85 4 = some (.iload_n 1, ((0, 0), ([], []))) := (kT_85 4).trans rfl
theorem r_85_5 : xT.1 85 5 = some (.invokevirtual 74, ((16, 2), ([], [0]))) := (kT_85 5).trans rfl
theorem r_85_8 : xT.1 85 8 = some (.invokestatic 62, ((135, 1), ([], [1]))) := (kT_85 8).trans rfl
theorem r_85_11 : xT.1 85 11 = some (.aload_n 0, ((0, 0), ([], []))) := (kT_85 11).trans rfl
theorem r_85_12 : xT.1 85 12 = some (.getfield 22, ((8, 2), ([], []))) := (kT_85 12).trans rfl
theorem r_85_15 : xT.1 85 15 = some (.aload_n 0, ((0, 0), ([], []))) := (kT_85 15).trans rfl
theorem r_85_16 : xT.1 85 16 = some (.getfield 10, ((8, 0), ([], []))) := (kT_85 16).trans rfl
theorem r_85_19 : xT.1 85 19 = some (.invokevirtual 66, ((67, 2), ([], [0]))) := (kT_85 19).trans rfl
theorem r_85_22 : xT.1 85 22 = some (.aload_n 0, ((0, 0), ([], []))) := (kT_85 22).trans rfl
theorem r_85_23 : xT.1 85 23 = some (.getfield 10, ((8, 0), ([], []))) := (kT_85 23).trans rfl
theorem r_85_26 : xT.1 85 26 = some (.iload_n 1, ((0, 0), ([], []))) := (kT_85 26).trans rfl
theorem r_85_27 : xT.1 85 27 = some (.invokevirtual 78, ((17, 2), ([], [0]))) := (kT_85 27).trans rfl
theorem r_85_30 : xT.1 85 30 = some (.ireturn, ((0, 0), ([], []))) := (kT_85 30).trans rfl
theorem kT_86 (pc : Nat) : xT.1 86 pc = xfind k_86 pc := rfl
theorem r_86_0 : xT.1 86 0 = some (.aload_n 0, ((0, 0), ([], []))) := (kT_86 0).trans rfl
theorem r_86_1 : xT.1 86 1 = some (.getfield 10, ((8, 0), ([], []))) := (kT_86 1).trans rfl
theorem r_86_4 : xT.1 86 4 = some (.iload_n 1, ((0, 0), ([], []))) := (kT_86 4).trans rfl
theorem r_86_5 : xT.1 86 5 = some (.iload_n 2, ((0, 0), ([], []))) := (kT_86 5).trans rfl
theorem r_86_6 : xT.1 86 6 = some (.iload_n 3, ((0, 0), ([], []))) := (kT_86 6).trans rfl
theorem r_86_7 : xT.1 86 7 = some (.iload 4, ((0, 0), ([], []))) := (kT_86 7).trans rfl
theorem r_86_9 : xT.1 86 9 = some (.iload 5, ((0, 0), ([], []))) := (kT_86 9).trans rfl
theorem r_86_11 : xT.1 86 11 = some (.iload 6, ((0, 0), ([], []))) := (kT_86 11).trans rfl
theorem r_86_13 : xT.1 86 13 = some (.invokevirtual 82, ((18, 7), ([], [0]))) := (kT_86 13).trans rfl
theorem r_86_16 : xT.1 86 16 = some (.invokestatic 62, ((135, 1), ([], [1]))) := (kT_86 16).trans rfl
theorem r_86_19 : xT.1 86 19 = some (.aload_n 0, ((0, 0), ([], []))) := (kT_86 19).trans rfl
theorem r_86_20 : xT.1 86 20 = some (.getfield 22, ((8, 2), ([], []))) := (kT_86 20).trans rfl
theorem r_86_23 : xT.1 86 23 = some (.aload_n 0, ((0, 0), ([], []))) := (kT_86 23).trans rfl
theorem r_86_24 : xT.1 86 24 = some (.getfield 10, ((8, 0), ([], []))) := (kT_86 24).trans rfl
theorem r_86_27 : xT.1 86 27 = some (.invokevirtual 66, ((67, 2), ([], [0]))) := (kT_86 27).trans rfl
theorem r_86_30 : xT.1 86 30 = some (.aload_n 0, ((0, 0), ([], []))) := (kT_86 30).trans rfl
theorem r_86_31 : xT.1 86 31 = some (.getfield 10, ((8, 0), ([], []))) := (kT_86 31).trans rfl
theorem r_86_34 : xT.1 86 34 = some (.iload_n 1, ((0, 0), ([], []))) := (kT_86 34).trans rfl
theorem r_86_35 : xT.1 86 35 = some (.iload_n 2, ((0, 0), ([], []))) := (kT_86 35).trans rfl
theorem r_86_36 : xT.1 86 36 = some (.iload_n 3, ((0, 0), ([], []))) := (kT_86 36).trans rfl
theorem r_86_37 : xT.1 86 37 = some (.iload 4, ((0, 0), ([], []))) := (kT_86 37).trans rfl
theorem r_86_39 : xT.1 86 39 = some (.iload 5, ((0, 0), ([], []))) := (kT_86 39).trans rfl
theorem r_86_41 : xT.1 86 41 = some (.iload 6, ((0, 0), ([], []))) := (kT_86 41).trans rfl
theorem r_86_43 : xT.1 86 43 = some (.invokevirtual 86, ((19, 7), ([], [0]))) := (kT_86 43).trans rfl
theorem r_86_46 : xT.1 86 46 = some (.ireturn, ((0, 0), ([], []))) := (kT_86 46).trans rfl
theorem kT_87 (pc : Nat) : xT.1 87 pc = xfind k_87 pc := rfl
theorem r_87_0 : xT.1 87 0 = some (.aload_n 0, ((0, 0), ([], []))) := (kT_87 0).trans rfl
theorem r_87_1 : xT.1 87 1 = some (.getfield 10, ((8, 0), ([], []))) := (kT_87 1).trans rfl
theorem r_87_4 : xT.1 87 4 = some (.iload_n 1, ((0, 0), ([], []))) := (kT_87 4).trans rfl
theorem r_87_5 : xT.1 87 5 = some (.invokevirtual 90, ((20, 2), ([], [0]))) := (kT_87 5).trans rfl
theorem r_87_8 : xT.1 87 8 = some (.invokestatic 62, ((135, 1), ([], [1]))) := (kT_87 8).trans rfl
theorem r_87_11 : xT.1 87 11 = some (.aload_n 0, ((0, 0), ([], []))) := (kT_87 11).trans rfl
theorem r_87_12 : xT.1 87 12 = some (.getfield 22, ((8, 2), ([], []))) := (kT_87 12).trans rfl
theorem r_87_15 : xT.1 87 15 = some (.aload_n 0, ((0, 0), ([], []))) := (kT_87 15).trans rfl
theorem r_87_16 : xT.1 87 16 = some (.getfield 10, ((8, 0), ([], []))) := (kT_87 16).trans rfl
theorem r_87_19 : xT.1 87 19 = some (.invokevirtual 66, ((67, 2), ([], [0]))) := (kT_87 19).trans rfl
theorem r_87_22 : xT.1 87 22 = some (.aload_n 0, ((0, 0), ([], []))) := (kT_87 22).trans rfl
theorem r_87_23 : xT.1 87 23 = some (.getfield 10, ((8, 0), ([], []))) := (kT_87 23).trans rfl
theorem r_87_26 : xT.1 87 26 = some (.iload_n 1, ((0, 0), ([], []))) := (kT_87 26).trans rfl
theorem r_87_27 : xT.1 87 27 = some (.invokevirtual 93, ((21, 2), ([], [0]))) := (kT_87 27).trans rfl
theorem r_87_30 : xT.1 87 30 = some (.ireturn, ((0, 0), ([], []))) := (kT_87 30).trans rfl
theorem kT_88 (pc : Nat) : xT.1 88 pc = xfind k_88 pc := rfl
theorem r_88_0 : xT.1 88 0 = some (.aload_n 0, ((0, 0), ([], []))) := (kT_88 0).trans rfl
theorem r_88_1 : xT.1 88 1 = some (.getfield 10, ((8, 0), ([], []))) := (kT_88 1).trans rfl
theorem r_88_4 : xT.1 88 4 = some (.invokevirtual 96, ((25, 1), ([], [0]))) := (kT_88 4).trans rfl
theorem r_88_7 : xT.1 88 7 = some (.invokestatic 62, ((135, 1), ([], [1]))) := (kT_88 7).trans rfl
theorem r_88_10 : xT.1 88 10 = some (.aload_n 0, ((0, 0), ([], []))) := (kT_88 10).trans rfl
theorem r_88_11 : xT.1 88 11 = some (.getfield 22, ((8, 2), ([], []))) := (kT_88 11).trans rfl
theorem r_88_14 : xT.1 88 14 = some (.aload_n 0, ((0, 0), ([], []))) := (kT_88 14).trans rfl
theorem r_88_15 : xT.1 88 15 = some (.getfield 10, ((8, 0), ([], []))) := (kT_88 15).trans rfl
theorem r_88_18 : xT.1 88 18 = some (.invokevirtual 66, ((67, 2), ([], [0]))) := (kT_88 18).trans rfl
theorem r_88_21 : xT.1 88 21 = some (.aload_n 0, ((0, 0), ([], []))) := (kT_88 21).trans rfl
theorem r_88_22 : xT.1 88 22 = some (.getfield 10, ((8, 0), ([], []))) := (kT_88 22).trans rfl
theorem r_88_25 : xT.1 88 25 = some (.invokevirtual 99, ((26, 1), ([], [0]))) := (kT_88 25).trans rfl
theorem r_88_28 : xT.1 88 28 = some (.ireturn, ((0, 0), ([], []))) := (kT_88 28).trans rfl
theorem kT_89 (pc : Nat) : xT.1 89 pc = xfind k_89 pc := rfl
theorem r_89_0 : xT.1 89 0 = some (.aload_n 0, ((0, 0), ([], []))) := (kT_89 0).trans rfl
theorem r_89_1 : xT.1 89 1 = some (.getfield 10, ((8, 0), ([], []))) := (kT_89 1).trans rfl
theorem r_89_4 : xT.1 89 4 = some (.iload_n 1, ((0, 0), ([], []))) := (kT_89 4).trans rfl
theorem r_89_5 : xT.1 89 5 = some (.invokevirtual 102, ((27, 2), ([], [0]))) := (kT_89 5).trans rfl
theorem r_89_8 : xT.1 89 8 = some (.invokestatic 62, ((135, 1), ([], [1]))) := (kT_89 8).trans rfl
theorem r_89_11 : xT.1 89 11 = some (.aload_n 0, ((0, 0), ([], []))) := (kT_89 11).trans rfl
theorem r_89_12 : xT.1 89 12 = some (.getfield 22, ((8, 2), ([], []))) := (kT_89 12).trans rfl
theorem r_89_15 : xT.1 89 15 = some (.aload_n 0, ((0, 0), ([], []))) := (kT_89 15).trans rfl
theorem r_89_16 : xT.1 89 16 = some (.getfield 10, ((8, 0), ([], []))) := (kT_89 16).trans rfl
theorem r_89_19 : xT.1 89 19 = some (.invokevirtual 66, ((67, 2), ([], [0]))) := (kT_89 19).trans rfl
theorem r_89_22 : xT.1 89 22 = some (.aload_n 0, ((0, 0), ([], []))) := (kT_89 22).trans rfl
theorem r_89_23 : xT.1 89 23 = some (.getfield 10, ((8, 0), ([], []))) := (kT_89 23).trans rfl
theorem r_89_26 : xT.1 89 26 = some (.iload_n 1, ((0, 0), ([], []))) := (kT_89 26).trans rfl
theorem r_89_27 : xT.1 89 27 = some (.invokevirtual 105, ((28, 2), ([], [0]))) := (kT_89 27).trans rfl
theorem r_89_30 : xT.1 89 30 = some (.ireturn, ((0, 0), ([], []))) := (kT_89 30).trans rfl
theorem kT_90 (pc : Nat) : xT.1 90 pc = xfind k_90 pc := rfl
theorem r_90_0 : xT.1 90 0 = some (.aload_n 0, ((0, 0), ([], []))) := (kT_90 0).trans rfl
theorem r_90_1 : xT.1 90 1 = some (.getfield 10, ((8, 0), ([], []))) := (kT_90 1).trans rfl
theorem r_90_4 : xT.1 90 4 = some (.getfield 108, ((1, 4), ([], []))) := (kT_90 4).trans rfl
theorem r_90_7 : xT.1 90 7 = some (.ireturn, ((0, 0), ([], []))) := (kT_90 7).trans rfl
theorem kT_91 (pc : Nat) : xT.1 91 pc = xfind k_91 pc := rfl
theorem r_91_0 : xT.1 91 0 = some (.aload_n 0, ((0, 0), ([], []))) := (kT_91 0).trans rfl
theorem r_91_1 : xT.1 91 1 = some (.iload_n 1, ((0, 0), ([], []))) := (kT_91 1).trans rfl
theorem r_91_2 : xT.1 91 2 = some (.invokevirtual 111, ((139, 2), ([], [0]))) := (kT_91 2).trans rfl
theorem r_91_5 : xT.1 91 5 = some (.getfield 115, ((6, 1), ([], []))) := (kT_91 5).trans rfl
theorem r_91_8 : xT.1 91 8 = some (.ireturn, ((0, 0), ([], []))) := (kT_91 8).trans rfl
theorem kT_92 (pc : Nat) : xT.1 92 pc = xfind k_92 pc := rfl
theorem r_92_0 : xT.1 92 0 = some (.aload_n 0, ((0, 0), ([], []))) := (kT_92 0).trans rfl
theorem r_92_1 : xT.1 92 1 = some (.iload_n 1, ((0, 0), ([], []))) := (kT_92 1).trans rfl
theorem r_92_2 : xT.1 92 2 = some (.invokevirtual 111, ((139, 2), ([], [0]))) := (kT_92 2).trans rfl
theorem r_92_5 : xT.1 92 5 = some (.getfield 120, ((6, 3), ([], []))) := (kT_92 5).trans rfl
theorem r_92_8 : xT.1 92 8 = some (.ireturn, ((0, 0), ([], []))) := (kT_92 8).trans rfl
theorem kT_93 (pc : Nat) : xT.1 93 pc = xfind k_93 pc := rfl
theorem r_93_0 : xT.1 93 0 = some (.aload_n 0, ((0, 0), ([], []))) := (kT_93 0).trans rfl
theorem r_93_1 : xT.1 93 1 = some (.getfield 10, ((8, 0), ([], []))) := (kT_93 1).trans rfl
theorem r_93_4 : xT.1 93 4 = some (.getfield 123, ((1, 8), ([], []))) := (kT_93 4).trans rfl
theorem r_93_7 : xT.1 93 7 = some (.ireturn, ((0, 0), ([], []))) := (kT_93 7).trans rfl
theorem kT_94 (pc : Nat) : xT.1 94 pc = xfind k_94 pc := rfl
theorem r_94_0 : xT.1 94 0 = some (.aload_n 0, ((0, 0), ([], []))) := (kT_94 0).trans rfl
theorem r_94_1 : xT.1 94 1 = some (.getfield 10, ((8, 0), ([], []))) := (kT_94 1).trans rfl
theorem r_94_4 : xT.1 94 4 = some (.invokevirtual 126, ((29, 1), ([], [0]))) := (kT_94 4).trans rfl
theorem r_94_7 : xT.1 94 7 = some (.ireturn, ((0, 0), ([], []))) := (kT_94 7).trans rfl
theorem kT_95 (pc : Nat) : xT.1 95 pc = xfind k_95 pc := rfl
theorem r_95_0 : xT.1 95 0 = some (.aload_n 0, ((0, 0), ([], []))) := (kT_95 0).trans rfl
theorem r_95_1 : xT.1 95 1 = some (.getfield 10, ((8, 0), ([], []))) := (kT_95 1).trans rfl
theorem r_95_4 : xT.1 95 4 = some (.getfield 129, ((1, 5), ([], []))) := (kT_95 4).trans rfl
theorem r_95_7 : xT.1 95 7 = some (.ireturn, ((0, 0), ([], []))) := (kT_95 7).trans rfl
theorem kT_96 (pc : Nat) : xT.1 96 pc = xfind k_96 pc := rfl
theorem r_96_0 : xT.1 96 0 = some (.iload_n 1, ((0, 0), ([], []))) := (kT_96 0).trans rfl
theorem r_96_1 : xT.1 96 1 = some (.ifCond .lt 14, ((15, 0), ([], []))) := (kT_96 1).trans rfl
theorem r_96_4 : xT.1 96 4 = some (.iload_n 1, ((0, 0), ([], []))) := (kT_96 4).trans rfl
theorem r_96_5 : xT.1 96 5 = some (.aload_n 0, ((0, 0), ([], []))) := (kT_96 5).trans rfl
theorem r_96_6 : xT.1 96 6 = some (.getfield 10, ((8, 0), ([], []))) := (kT_96 6).trans rfl
theorem r_96_9 : xT.1 96 9 = some (.getfield 129, ((1, 5), ([], []))) := (kT_96 9).trans rfl
theorem r_96_12 : xT.1 96 12 = some (.if_icmp .lt 13, ((25, 0), ([], []))) := (kT_96 12).trans rfl
theorem r_96_15 : xT.1 96 15 = some (.new 132, ((5, 0), ([], [7]))) := (kT_96 15).trans rfl
theorem r_96_25 : xT.1 96 25 = some (.aload_n 0, ((0, 0), ([], []))) := (kT_96 25).trans rfl
theorem r_96_26 : xT.1 96 26 = some (.getfield 10, ((8, 0), ([], []))) := (kT_96 26).trans rfl
theorem r_96_29 : xT.1 96 29 = some (.getfield 139, ((1, 1), ([], []))) := (kT_96 29).trans rfl
theorem r_96_32 : xT.1 96 32 = some (.iload_n 1, ((0, 0), ([], []))) := (kT_96 32).trans rfl
theorem r_96_33 : xT.1 96 33 = some (.aaload, ((0, 0), ([], []))) := (kT_96 33).trans rfl
theorem r_96_34 : xT.1 96 34 = some (.getfield 143, ((7, 1), ([], []))) := (kT_96 34).trans rfl
theorem r_96_37 : xT.1 96 37 = some (.ireturn, ((0, 0), ([], []))) := (kT_96 37).trans rfl
theorem kT_97 (pc : Nat) : xT.1 97 pc = xfind k_97 pc := rfl
theorem r_97_0 : xT.1 97 0 = some (.aload_n 0, ((0, 0), ([], []))) := (kT_97 0).trans rfl
theorem r_97_1 : xT.1 97 1 = some (.getfield 10, ((8, 0), ([], []))) := (kT_97 1).trans rfl
theorem r_97_4 : xT.1 97 4 = some (.iload_n 1, ((0, 0), ([], []))) := (kT_97 4).trans rfl
theorem r_97_5 : xT.1 97 5 = some (.invokevirtual 148, ((13, 2), ([], [0]))) := (kT_97 5).trans rfl
theorem r_97_8 : xT.1 97 8 = some (.istore_n 2, ((0, 0), ([], []))) := (kT_97 8).trans rfl
theorem r_97_9 : xT.1 97 9 = some (.iload_n 2, ((0, 0), ([], []))) := (kT_97 9).trans rfl
theorem r_97_10 : xT.1 97 10 = some (.iconst (-1), ((0, 0), ([.int (-1)], []))) := (kT_97 10).trans rfl
theorem r_97_11 : xT.1 97 11 = some (.if_icmp .ne 13, ((24, 0), ([], []))) := (kT_97 11).trans rfl
theorem r_97_14 : xT.1 97 14 = some (.new 132, ((5, 0), ([], [7]))) := (kT_97 14).trans rfl
theorem r_97_24 : xT.1 97 24 = some (.iload_n 2, ((0, 0), ([], []))) := (kT_97 24).trans rfl
theorem r_97_25 : xT.1 97 25 = some (.ireturn, ((0, 0), ([], []))) := (kT_97 25).trans rfl
theorem kT_98 (pc : Nat) : xT.1 98 pc = xfind k_98 pc := rfl
theorem r_98_0 : xT.1 98 0 = some (.aload_n 0, ((0, 0), ([], []))) := (kT_98 0).trans rfl
theorem r_98_1 : xT.1 98 1 = some (.iload_n 1, ((0, 0), ([], []))) := (kT_98 1).trans rfl
theorem r_98_2 : xT.1 98 2 = some (.invokevirtual 153, ((140, 2), ([], [0]))) := (kT_98 2).trans rfl
theorem r_98_5 : xT.1 98 5 = some (.getfield 157, ((7, 2), ([], []))) := (kT_98 5).trans rfl
theorem r_98_8 : xT.1 98 8 = some (.ireturn, ((0, 0), ([], []))) := (kT_98 8).trans rfl
theorem kT_99 (pc : Nat) : xT.1 99 pc = xfind k_99 pc := rfl
theorem r_99_0 : xT.1 99 0 = some (.aload_n 0, ((0, 0), ([], []))) := (kT_99 0).trans rfl
theorem r_99_1 : xT.1 99 1 = some (.iload_n 1, ((0, 0), ([], []))) := (kT_99 1).trans rfl
theorem r_99_2 : xT.1 99 2 = some (.invokevirtual 153, ((140, 2), ([], [0]))) := (kT_99 2).trans rfl
theorem r_99_5 : xT.1 99 5 = some (.getfield 160, ((7, 3), ([], []))) := (kT_99 5).trans rfl
theorem r_99_8 : xT.1 99 8 = some (.ireturn, ((0, 0), ([], []))) := (kT_99 8).trans rfl
theorem kT_100 (pc : Nat) : xT.1 100 pc = xfind k_100 pc := rfl
theorem r_100_0 : xT.1 100 0 = some (.aload_n 0, ((0, 0), ([], []))) := (kT_100 0).trans rfl
theorem r_100_1 : xT.1 100 1 = some (.iload_n 1, ((0, 0), ([], []))) := (kT_100 1).trans rfl
theorem r_100_2 : xT.1 100 2 = some (.invokevirtual 153, ((140, 2), ([], [0]))) := (kT_100 2).trans rfl
theorem r_100_5 : xT.1 100 5 = some (.astore_n 3, ((0, 0), ([], []))) := (kT_100 5).trans rfl
theorem r_100_6 : xT.1 100 6 = some (.iload_n 2, ((0, 0), ([], []))) := (kT_100 6).trans rfl
theorem r_100_7 : xT.1 100 7 = some (.ifCond .lt 11, ((18, 0), ([], []))) := (kT_100 7).trans rfl
theorem r_100_10 : xT.1 100 10 = some (.iload_n 2, ((0, 0), ([], []))) := (kT_100 10).trans rfl
theorem r_100_11 : xT.1 100 11 = some (.aload_n 3, ((0, 0), ([], []))) := (kT_100 11).trans rfl
theorem r_100_12 : xT.1 100 12 = some (.getfield 160, ((7, 3), ([], []))) := (kT_100 12).trans rfl
theorem r_100_15 : xT.1 100 15 = some (.if_icmp .lt 13, ((28, 0), ([], []))) := (kT_100 15).trans rfl
theorem r_100_18 : xT.1 100 18 = some (.new 163, ((2, 0), ([], [7]))) := (kT_100 18).trans rfl
theorem r_100_28 : xT.1 100 28 = some (.aload_n 3, ((0, 0), ([], []))) := (kT_100 28).trans rfl
theorem r_100_29 : xT.1 100 29 = some (.getfield 168, ((7, 0), ([], []))) := (kT_100 29).trans rfl
theorem r_100_32 : xT.1 100 32 = some (.iload_n 2, ((0, 0), ([], []))) := (kT_100 32).trans rfl
theorem r_100_33 : xT.1 100 33 = some (.aaload, ((0, 0), ([], []))) := (kT_100 33).trans rfl
theorem r_100_34 : xT.1 100 34 = some (.getfield 172, ((4, 0), ([], []))) := (kT_100 34).trans rfl
theorem r_100_37 : xT.1 100 37 = some (.ireturn, ((0, 0), ([], []))) := (kT_100 37).trans rfl
theorem kT_102 (pc : Nat) : xT.1 102 pc = xfind k_102 pc := rfl
theorem r_102_0 : xT.1 102 0 = some (.aload_n 0, ((0, 0), ([], []))) := (kT_102 0).trans rfl
theorem r_102_1 : xT.1 102 1 = some (.iload_n 1, ((0, 0), ([], []))) := (kT_102 1).trans rfl
theorem r_102_2 : xT.1 102 2 = some (.iload_n 2, ((0, 0), ([], []))) := (kT_102 2).trans rfl
theorem r_102_3 : xT.1 102 3 = some (.invokevirtual 180, ((142, 3), ([], [0]))) := (kT_102 3).trans rfl
theorem r_102_6 : xT.1 102 6 = some (.getfield 184, ((4, 1), ([], []))) := (kT_102 6).trans rfl
theorem r_102_9 : xT.1 102 9 = some (.ireturn, ((0, 0), ([], []))) := (kT_102 9).trans rfl
theorem kT_103 (pc : Nat) : xT.1 103 pc = xfind k_103 pc := rfl
theorem r_103_0 : xT.1 103 0 = some (.aload_n 0, ((0, 0), ([], []))) := (kT_103 0).trans rfl
theorem r_103_1 : xT.1 103 1 = some (.iload_n 1, ((0, 0), ([], []))) := (kT_103 1).trans rfl
theorem r_103_2 : xT.1 103 2 = some (.iload_n 2, ((0, 0), ([], []))) := (kT_103 2).trans rfl
theorem r_103_3 : xT.1 103 3 = some (.invokevirtual 180, ((142, 3), ([], [0]))) := (kT_103 3).trans rfl
theorem r_103_6 : xT.1 103 6 = some (.getfield 187, ((4, 2), ([], []))) := (kT_103 6).trans rfl
theorem r_103_9 : xT.1 103 9 = some (.ireturn, ((0, 0), ([], []))) := (kT_103 9).trans rfl
theorem kT_104 (pc : Nat) : xT.1 104 pc = xfind k_104 pc := rfl
theorem r_104_0 : xT.1 104 0 = some (.aload_n 0, ((0, 0), ([], []))) := (kT_104 0).trans rfl
theorem r_104_1 : xT.1 104 1 = some (.iload_n 1, ((0, 0), ([], []))) := (kT_104 1).trans rfl
theorem r_104_2 : xT.1 104 2 = some (.iload_n 2, ((0, 0), ([], []))) := (kT_104 2).trans rfl
theorem r_104_3 : xT.1 104 3 = some (.invokevirtual 180, ((142, 3), ([], [0]))) := (kT_104 3).trans rfl
theorem r_104_6 : xT.1 104 6 = some (.getfield 190, ((4, 3), ([], []))) := (kT_104 6).trans rfl
theorem r_104_9 : xT.1 104 9 = some (.ireturn, ((0, 0), ([], []))) := (kT_104 9).trans rfl
theorem kT_105 (pc : Nat) : xT.1 105 pc = xfind k_105 pc := rfl
theorem r_105_0 : xT.1 105 0 = some (.aload_n 0, ((0, 0), ([], []))) := (kT_105 0).trans rfl
theorem r_105_1 : xT.1 105 1 = some (.iload_n 1, ((0, 0), ([], []))) := (kT_105 1).trans rfl
theorem r_105_2 : xT.1 105 2 = some (.iload_n 2, ((0, 0), ([], []))) := (kT_105 2).trans rfl
theorem r_105_3 : xT.1 105 3 = some (.invokevirtual 180, ((142, 3), ([], [0]))) := (kT_105 3).trans rfl
theorem r_105_6 : xT.1 105 6 = some (.getfield 193, ((4, 4), ([], []))) := (kT_105 6).trans rfl
theorem r_105_9 : xT.1 105 9 = some (.ireturn, ((0, 0), ([], []))) := (kT_105 9).trans rfl
theorem kT_106 (pc : Nat) : xT.1 106 pc = xfind k_106 pc := rfl
theorem r_106_0 : xT.1 106 0 = some (.aload_n 0, ((0, 0), ([], []))) := (kT_106 0).trans rfl
theorem r_106_1 : xT.1 106 1 = some (.iload_n 1, ((0, 0), ([], []))) := (kT_106 1).trans rfl
theorem r_106_2 : xT.1 106 2 = some (.iload_n 2, ((0, 0), ([], []))) := (kT_106 2).trans rfl
theorem r_106_3 : xT.1 106 3 = some (.invokevirtual 180, ((142, 3), ([], [0]))) := (kT_106 3).trans rfl
theorem r_106_6 : xT.1 106 6 = some (.invokevirtual 196, ((61, 1), ([], [0]))) := (kT_106 6).trans rfl
theorem r_106_9 : xT.1 106 9 = some (.ireturn, ((0, 0), ([], []))) := (kT_106 9).trans rfl
theorem kT_107 (pc : Nat) : xT.1 107 pc = xfind k_107 pc := rfl
theorem r_107_0 : xT.1 107 0 = some (.aload_n 0, ((0, 0), ([], []))) := (kT_107 0).trans rfl
theorem r_107_1 : xT.1 107 1 = some (.iload_n 1, ((0, 0), ([], []))) := (kT_107 1).trans rfl
theorem r_107_2 : xT.1 107 2 = some (.invokevirtual 153, ((140, 2), ([], [0]))) := (kT_107 2).trans rfl
theorem r_107_5 : xT.1 107 5 = some (.astore_n 3, ((0, 0), ([], []))) := (kT_107 5).trans rfl
theorem r_107_6 : xT.1 107 6 = some (.iload_n 2, ((0, 0), ([], []))) := (kT_107 6).trans rfl
theorem r_107_7 : xT.1 107 7 = some (.invokestatic 199, ((136, 1), ([], [1]))) := (kT_107 7).trans rfl
theorem r_107_10 : xT.1 107 10 = some (.ifCond .ne 13, ((23, 0), ([], []))) := (kT_107 10).trans rfl
theorem r_107_13 : xT.1 107 13 = some (.new 203, ((1, 0), ([], [7]))) := (kT_107 13).trans rfl
theorem r_107_23 : xT.1 107 23 = some (.aload_n 3, ((0, 0), ([], []))) := (kT_107 23).trans rfl
theorem r_107_24 : xT.1 107 24 = some (.iload_n 2, ((0, 0), ([], []))) := (kT_107 24).trans rfl
theorem r_107_25 : xT.1 107 25 = some (.invokevirtual 208, ((81, 2), ([], [0]))) := (kT_107 25).trans rfl
theorem r_107_28 : xT.1 107 28 = some (.ireturn, ((0, 0), ([], []))) := (kT_107 28).trans rfl
theorem kT_108 (pc : Nat) : xT.1 108 pc = xfind k_108 pc := rfl
theorem r_108_0 : xT.1 108 0 = some (.aload_n 0, ((0, 0), ([], []))) := (kT_108 0).trans rfl
theorem r_108_1 : xT.1 108 1 = some (.getfield 29, ((8, 3), ([], []))) := (kT_108 1).trans rfl
theorem r_108_4 : xT.1 108 4 = some (.aload_n 0, ((0, 0), ([], []))) := (kT_108 4).trans rfl
theorem r_108_5 : xT.1 108 5 = some (.iload_n 1, ((0, 0), ([], []))) := (kT_108 5).trans rfl
theorem r_108_6 : xT.1 108 6 = some (.invokevirtual 211, ((141, 2), ([], [0]))) := (kT_108 6).trans rfl
theorem r_108_9 : xT.1 108 9 = some (.invokevirtual 214, ((49, 2), ([], [0]))) := (kT_108 9).trans rfl
theorem r_108_12 : xT.1 108 12 = some (.ireturn, ((0, 0), ([], []))) := (kT_108 12).trans rfl
theorem kT_109 (pc : Nat) : xT.1 109 pc = xfind k_109 pc := rfl
theorem r_109_0 : xT.1 109 0 = some (.aload_n 0, ((0, 0), ([], []))) := (kT_109 0).trans rfl
theorem r_109_1 : xT.1 109 1 = some (.getfield 29, ((8, 3), ([], []))) := (kT_109 1).trans rfl
theorem r_109_4 : xT.1 109 4 = some (.aload_n 0, ((0, 0), ([], []))) := (kT_109 4).trans rfl
theorem r_109_5 : xT.1 109 5 = some (.iload_n 1, ((0, 0), ([], []))) := (kT_109 5).trans rfl
theorem r_109_6 : xT.1 109 6 = some (.invokevirtual 211, ((141, 2), ([], [0]))) := (kT_109 6).trans rfl
theorem r_109_9 : xT.1 109 9 = some (.invokevirtual 218, ((51, 2), ([], [0]))) := (kT_109 9).trans rfl
theorem r_109_12 : xT.1 109 12 = some (.ireturn, ((0, 0), ([], []))) := (kT_109 12).trans rfl
theorem kT_110 (pc : Nat) : xT.1 110 pc = xfind k_110 pc := rfl
theorem r_110_0 : xT.1 110 0 = some (.aload_n 0, ((0, 0), ([], []))) := (kT_110 0).trans rfl
theorem r_110_1 : xT.1 110 1 = some (.getfield 29, ((8, 3), ([], []))) := (kT_110 1).trans rfl
theorem r_110_4 : xT.1 110 4 = some (.aload_n 0, ((0, 0), ([], []))) := (kT_110 4).trans rfl
theorem r_110_5 : xT.1 110 5 = some (.iload_n 1, ((0, 0), ([], []))) := (kT_110 5).trans rfl
theorem r_110_6 : xT.1 110 6 = some (.invokevirtual 153, ((140, 2), ([], [0]))) := (kT_110 6).trans rfl
theorem r_110_9 : xT.1 110 9 = some (.invokevirtual 221, ((50, 2), ([], [0]))) := (kT_110 9).trans rfl
theorem r_110_12 : xT.1 110 12 = some (.ireturn, ((0, 0), ([], []))) := (kT_110 12).trans rfl
theorem kT_111 (pc : Nat) : xT.1 111 pc = xfind k_111 pc := rfl
theorem r_111_0 : xT.1 111 0 = some (.aload_n 0, ((0, 0), ([], []))) := (kT_111 0).trans rfl
theorem r_111_1 : xT.1 111 1 = some (.getfield 10, ((8, 0), ([], []))) := (kT_111 1).trans rfl
theorem r_111_4 : xT.1 111 4 = some (.getfield 224, ((1, 7), ([], []))) := (kT_111 4).trans rfl
theorem r_111_7 : xT.1 111 7 = some (.ireturn, ((0, 0), ([], []))) := (kT_111 7).trans rfl
theorem kT_112 (pc : Nat) : xT.1 112 pc = xfind k_112 pc := rfl
theorem r_112_0 : xT.1 112 0 = some (.iload_n 1, ((0, 0), ([], []))) := (kT_112 0).trans rfl
theorem r_112_1 : xT.1 112 1 = some (.ifCond .lt 18, ((19, 0), ([], []))) := (kT_112 1).trans rfl
theorem r_112_4 : xT.1 112 4 = some (.iload_n 1, ((0, 0), ([], []))) := (kT_112 4).trans rfl
theorem r_112_5 : xT.1 112 5 = some (.aload_n 0, ((0, 0), ([], []))) := (kT_112 5).trans rfl
theorem r_112_6 : xT.1 112 6 = some (.getfield 10, ((8, 0), ([], []))) := (kT_112 6).trans rfl
theorem r_112_9 : xT.1 112 9 = some (.getfield 224, ((1, 7), ([], []))) := (kT_112 9).trans rfl
theorem r_112_12 : xT.1 112 12 = some (.iconst 5, ((0, 0), ([.int 5], []))) := (kT_112 12).trans rfl
theorem r_112_13 : xT.1 112 13 = some (.invokestatic 227, ((21, 2), ([], [4]))) := (kT_112 13).trans rfl
theorem r_112_16 : xT.1 112 16 = some (.if_icmp .lt 13, ((29, 0), ([], []))) := (kT_112 16).trans rfl
theorem r_112_19 : xT.1 112 19 = some (.new 132, ((5, 0), ([], [7]))) := (kT_112 19).trans rfl
theorem r_112_29 : xT.1 112 29 = some (.aload_n 0, ((0, 0), ([], []))) := (kT_112 29).trans rfl
theorem r_112_30 : xT.1 112 30 = some (.getfield 10, ((8, 0), ([], []))) := (kT_112 30).trans rfl
theorem r_112_33 : xT.1 112 33 = some (.getfield 235, ((1, 3), ([], []))) := (kT_112 33).trans rfl
theorem r_112_36 : xT.1 112 36 = some (.iload_n 1, ((0, 0), ([], []))) := (kT_112 36).trans rfl
theorem r_112_37 : xT.1 112 37 = some (.iaload, ((0, 0), ([], []))) := (kT_112 37).trans rfl
theorem r_112_38 : xT.1 112 38 = some (.ireturn, ((0, 0), ([], []))) := (kT_112 38).trans rfl
theorem kT_114 (pc : Nat) : xT.1 114 pc = xfind k_114 pc := rfl
theorem r_114_0 : xT.1 114 0 = some (.aload_n 0, ((0, 0), ([], []))) := (kT_114 0).trans rfl
theorem r_114_1 : xT.1 114 1 = some (.iload_n 1, ((0, 0), ([], []))) := (kT_114 1).trans rfl
theorem r_114_2 : xT.1 114 2 = some (.invokevirtual 111, ((139, 2), ([], [0]))) := (kT_114 2).trans rfl
theorem r_114_5 : xT.1 114 5 = some (.getfield 239, ((6, 0), ([], []))) := (kT_114 5).trans rfl
theorem r_114_8 : xT.1 114 8 = some (.invokevirtual 248, ((7, 1), ([], [0]))) := (kT_114 8).trans rfl
theorem r_114_11 : xT.1 114 11 = some (.ireturn, ((0, 0), ([], []))) := (kT_114 11).trans rfl
theorem kT_115 (pc : Nat) : xT.1 115 pc = xfind k_115 pc := rfl
theorem r_115_0 : xT.1 115 0 = some (.aload_n 0, ((0, 0), ([], []))) := (kT_115 0).trans rfl
theorem r_115_1 : xT.1 115 1 = some (.iload_n 1, ((0, 0), ([], []))) := (kT_115 1).trans rfl
theorem r_115_2 : xT.1 115 2 = some (.invokevirtual 111, ((139, 2), ([], [0]))) := (kT_115 2).trans rfl
theorem r_115_5 : xT.1 115 5 = some (.getfield 251, ((6, 2), ([], []))) := (kT_115 5).trans rfl
theorem r_115_8 : xT.1 115 8 = some (.ireturn, ((0, 0), ([], []))) := (kT_115 8).trans rfl
theorem kT_116 (pc : Nat) : xT.1 116 pc = xfind k_116 pc := rfl
theorem r_116_0 : xT.1 116 0 = some (.aload_n 0, ((0, 0), ([], []))) := (kT_116 0).trans rfl
theorem r_116_1 : xT.1 116 1 = some (.iload_n 1, ((0, 0), ([], []))) := (kT_116 1).trans rfl
theorem r_116_2 : xT.1 116 2 = some (.invokevirtual 111, ((139, 2), ([], [0]))) := (kT_116 2).trans rfl
theorem r_116_5 : xT.1 116 5 = some (.astore_n 2, ((0, 0), ([], []))) := (kT_116 5).trans rfl
theorem r_116_6 : xT.1 116 6 = some (.aload_n 2, ((0, 0), ([], []))) := (kT_116 6).trans rfl
theorem r_116_7 : xT.1 116 7 = some (.getfield 239, ((6, 0), ([], []))) := (kT_116 7).trans rfl
theorem r_116_10 : xT.1 116 10 = some (.invokevirtual 243, ((6, 1), ([], [0]))) := (kT_116 10).trans rfl
theorem r_116_13 : xT.1 116 13 = some (.istore_n 3, ((0, 0), ([], []))) := (kT_116 13).trans rfl
theorem r_116_14 : xT.1 116 14 = some (.iload_n 3, ((0, 0), ([], []))) := (kT_116 14).trans rfl
theorem r_116_15 : xT.1 116 15 = some (.ifCond .ne 14, ((29, 0), ([], []))) := (kT_116 15).trans rfl
theorem r_116_18 : xT.1 116 18 = some (.new 254, ((3, 0), ([], [7]))) := (kT_116 18).trans rfl
theorem r_116_29 : xT.1 116 29 = some (.aload_n 2, ((0, 0), ([], []))) := (kT_116 29).trans rfl
theorem r_116_30 : xT.1 116 30 = some (.getfield 251, ((6, 2), ([], []))) := (kT_116 30).trans rfl
theorem r_116_33 : xT.1 116 33 = some (.i2d, ((0, 0), ([], []))) := (kT_116 33).trans rfl
theorem r_116_34 : xT.1 116 34 = some (.iload_n 3, ((0, 0), ([], []))) := (kT_116 34).trans rfl
theorem r_116_35 : xT.1 116 35 = some (.i2d, ((0, 0), ([], []))) := (kT_116 35).trans rfl
theorem r_116_36 : xT.1 116 36 = some (.ddiv, ((0, 0), ([], []))) := (kT_116 36).trans rfl
theorem r_116_37 : xT.1 116 37 = some (.dreturn, ((0, 0), ([], []))) := (kT_116 37).trans rfl
theorem kT_117 (pc : Nat) : xT.1 117 pc = xfind k_117 pc := rfl
theorem r_117_0 : xT.1 117 0 = some (.aload_n 0, ((0, 0), ([], []))) := (kT_117 0).trans rfl
theorem r_117_1 : xT.1 117 1 = some (.iload_n 1, ((0, 0), ([], []))) := (kT_117 1).trans rfl
theorem r_117_2 : xT.1 117 2 = some (.invokevirtual 111, ((139, 2), ([], [0]))) := (kT_117 2).trans rfl
theorem r_117_5 : xT.1 117 5 = some (.getfield 239, ((6, 0), ([], []))) := (kT_117 5).trans rfl
theorem r_117_8 : xT.1 117 8 = some (.invokevirtual 259, ((8, 1), ([], [0]))) := (kT_117 8).trans rfl
theorem r_117_11 : xT.1 117 11 = some (.ireturn, ((0, 0), ([], []))) := (kT_117 11).trans rfl
theorem kT_118 (pc : Nat) : xT.1 118 pc = xfind k_118 pc := rfl
theorem r_118_0 : xT.1 118 0 = some (.aload_n 0, ((0, 0), ([], []))) := (kT_118 0).trans rfl
theorem r_118_1 : xT.1 118 1 = some (.getfield 10, ((8, 0), ([], []))) := (kT_118 1).trans rfl
theorem r_118_4 : xT.1 118 4 = some (.invokevirtual 262, ((31, 1), ([], [0]))) := (kT_118 4).trans rfl
theorem r_118_7 : xT.1 118 7 = some (.istore_n 1, ((0, 0), ([], []))) := (kT_118 7).trans rfl
theorem r_118_8 : xT.1 118 8 = some (.iload_n 1, ((0, 0), ([], []))) := (kT_118 8).trans rfl
theorem r_118_9 : xT.1 118 9 = some (.iconst (-1), ((0, 0), ([.int (-1)], []))) := (kT_118 9).trans rfl
theorem r_118_10 : xT.1 118 10 = some (.if_icmp .ne 14, ((24, 0), ([], []))) := (kT_118 10).trans rfl
theorem r_118_13 : xT.1 118 13 = some (.new 132, ((5, 0), ([], [7]))) := (kT_118 13).trans rfl
theorem r_118_24 : xT.1 118 24 = some (.iload_n 1, ((0, 0), ([], []))) := (kT_118 24).trans rfl
theorem r_118_25 : xT.1 118 25 = some (.ireturn, ((0, 0), ([], []))) := (kT_118 25).trans rfl
theorem kT_119 (pc : Nat) : xT.1 119 pc = xfind k_119 pc := rfl
theorem r_119_0 : xT.1 119 0 = some (.iconst 0, ((0, 0), ([.int 0], []))) := (kT_119 0).trans rfl
theorem r_119_1 : xT.1 119 1 = some (.istore_n 2, ((0, 0), ([], []))) := (kT_119 1).trans rfl
theorem r_119_2 : xT.1 119 2 = some (.iload_n 2, ((0, 0), ([], []))) := (kT_119 2).trans rfl
theorem r_119_3 : xT.1 119 3 = some (.aload_n 0, ((0, 0), ([], []))) := (kT_119 3).trans rfl
theorem r_119_4 : xT.1 119 4 = some (.getfield 10, ((8, 0), ([], []))) := (kT_119 4).trans rfl
theorem r_119_7 : xT.1 119 7 = some (.getfield 108, ((1, 4), ([], []))) := (kT_119 7).trans rfl
theorem r_119_10 : xT.1 119 10 = some (.if_icmp .ge 23, ((33, 0), ([], []))) := (kT_119 10).trans rfl
theorem r_119_13 : xT.1 119 13 = some (.aload_n 0, ((0, 0), ([], []))) := (kT_119 13).trans rfl
theorem r_119_14 : xT.1 119 14 = some (.getfield 10, ((8, 0), ([], []))) := (kT_119 14).trans rfl
theorem r_119_17 : xT.1 119 17 = some (.iload_n 2, ((0, 0), ([], []))) := (kT_119 17).trans rfl
theorem r_119_18 : xT.1 119 18 = some (.invokevirtual 267, ((32, 2), ([], [0]))) := (kT_119 18).trans rfl
theorem r_119_21 : xT.1 119 21 = some (.iload_n 1, ((0, 0), ([], []))) := (kT_119 21).trans rfl
theorem r_119_22 : xT.1 119 22 = some (.if_icmp .ne 5, ((27, 0), ([], []))) := (kT_119 22).trans rfl
theorem r_119_25 : xT.1 119 25 = some (.iload_n 2, ((0, 0), ([], []))) := (kT_119 25).trans rfl
theorem r_119_26 : xT.1 119 26 = some (.ireturn, ((0, 0), ([], []))) := (kT_119 26).trans rfl
theorem r_119_27 : xT.1 119 27 = some (.iinc 2 1, ((0, 0), ([.int (1)], []))) := (kT_119 27).trans rfl
theorem r_119_30 : xT.1 119 30 = some (.goto (-28), ((2, 0), ([], []))) := (kT_119 30).trans rfl
theorem r_119_33 : xT.1 119 33 = some (.new 132, ((5, 0), ([], [7]))) := (kT_119 33).trans rfl
theorem kT_120 (pc : Nat) : xT.1 120 pc = xfind k_120 pc := rfl
theorem r_120_0 : xT.1 120 0 = some (.iload_n 1, ((0, 0), ([], []))) := (kT_120 0).trans rfl
theorem r_120_1 : xT.1 120 1 = some (.invokestatic 270, ((138, 1), ([], [1]))) := (kT_120 1).trans rfl
theorem r_120_4 : xT.1 120 4 = some (.aload_n 0, ((0, 0), ([], []))) := (kT_120 4).trans rfl
theorem r_120_5 : xT.1 120 5 = some (.getfield 10, ((8, 0), ([], []))) := (kT_120 5).trans rfl
theorem r_120_8 : xT.1 120 8 = some (.getfield 274, ((1, 2), ([], []))) := (kT_120 8).trans rfl
theorem r_120_11 : xT.1 120 11 = some (.iload_n 1, ((0, 0), ([], []))) := (kT_120 11).trans rfl
theorem r_120_12 : xT.1 120 12 = some (.invokevirtual 275, ((4, 2), ([], [0]))) := (kT_120 12).trans rfl
theorem r_120_15 : xT.1 120 15 = some (.ireturn, ((0, 0), ([], []))) := (kT_120 15).trans rfl
theorem kT_121 (pc : Nat) : xT.1 121 pc = xfind k_121 pc := rfl
theorem r_121_0 : xT.1 121 0 = some (.iload_n 1, ((0, 0), ([], []))) := (kT_121 0).trans rfl
theorem r_121_1 : xT.1 121 1 = some (.invokestatic 270, ((138, 1), ([], [1]))) := (kT_121 1).trans rfl
theorem r_121_4 : xT.1 121 4 = some (.aload_n 0, ((0, 0), ([], []))) := (kT_121 4).trans rfl
theorem r_121_5 : xT.1 121 5 = some (.getfield 10, ((8, 0), ([], []))) := (kT_121 5).trans rfl
theorem r_121_8 : xT.1 121 8 = some (.iload_n 1, ((0, 0), ([], []))) := (kT_121 8).trans rfl
theorem r_121_9 : xT.1 121 9 = some (.invokevirtual 278, ((30, 2), ([], [0]))) := (kT_121 9).trans rfl
theorem r_121_12 : xT.1 121 12 = some (.ireturn, ((0, 0), ([], []))) := (kT_121 12).trans rfl
theorem kT_122 (pc : Nat) : xT.1 122 pc = xfind k_122 pc := rfl
theorem r_122_0 : xT.1 122 0 = some (.iload_n 1, ((0, 0), ([], []))) := (kT_122 0).trans rfl
theorem r_122_1 : xT.1 122 1 = some (.invokestatic 270, ((138, 1), ([], [1]))) := (kT_122 1).trans rfl
theorem r_122_4 : xT.1 122 4 = some (.aload_n 0, ((0, 0), ([], []))) := (kT_122 4).trans rfl
theorem r_122_5 : xT.1 122 5 = some (.getfield 10, ((8, 0), ([], []))) := (kT_122 5).trans rfl
theorem r_122_8 : xT.1 122 8 = some (.getfield 274, ((1, 2), ([], []))) := (kT_122 8).trans rfl
theorem r_122_11 : xT.1 122 11 = some (.iload_n 1, ((0, 0), ([], []))) := (kT_122 11).trans rfl
theorem r_122_12 : xT.1 122 12 = some (.invokevirtual 281, ((5, 2), ([], [0]))) := (kT_122 12).trans rfl
theorem r_122_15 : xT.1 122 15 = some (.ireturn, ((0, 0), ([], []))) := (kT_122 15).trans rfl
theorem kT_123 (pc : Nat) : xT.1 123 pc = xfind k_123 pc := rfl
theorem r_123_0 : xT.1 123 0 = some (.iload_n 1, ((0, 0), ([], []))) := (kT_123 0).trans rfl
theorem r_123_1 : xT.1 123 1 = some (.invokestatic 270, ((138, 1), ([], [1]))) := (kT_123 1).trans rfl
theorem r_123_4 : xT.1 123 4 = some (.aload_n 0, ((0, 0), ([], []))) := (kT_123 4).trans rfl
theorem r_123_5 : xT.1 123 5 = some (.getfield 10, ((8, 0), ([], []))) := (kT_123 5).trans rfl
theorem r_123_8 : xT.1 123 8 = some (.getfield 274, ((1, 2), ([], []))) := (kT_123 8).trans rfl
theorem r_123_11 : xT.1 123 11 = some (.iload_n 1, ((0, 0), ([], []))) := (kT_123 11).trans rfl
theorem r_123_12 : xT.1 123 12 = some (.invokevirtual 275, ((4, 2), ([], [0]))) := (kT_123 12).trans rfl
theorem r_123_15 : xT.1 123 15 = some (.istore_n 2, ((0, 0), ([], []))) := (kT_123 15).trans rfl
theorem r_123_16 : xT.1 123 16 = some (.iload_n 2, ((0, 0), ([], []))) := (kT_123 16).trans rfl
theorem r_123_17 : xT.1 123 17 = some (.ifCond .ne 14, ((31, 0), ([], []))) := (kT_123 17).trans rfl
theorem r_123_20 : xT.1 123 20 = some (.new 254, ((3, 0), ([], [7]))) := (kT_123 20).trans rfl
theorem r_123_31 : xT.1 123 31 = some (.aload_n 0, ((0, 0), ([], []))) := (kT_123 31).trans rfl
theorem r_123_32 : xT.1 123 32 = some (.getfield 10, ((8, 0), ([], []))) := (kT_123 32).trans rfl
theorem r_123_35 : xT.1 123 35 = some (.getfield 274, ((1, 2), ([], []))) := (kT_123 35).trans rfl
theorem r_123_38 : xT.1 123 38 = some (.iload_n 1, ((0, 0), ([], []))) := (kT_123 38).trans rfl
theorem r_123_39 : xT.1 123 39 = some (.invokevirtual 281, ((5, 2), ([], [0]))) := (kT_123 39).trans rfl
theorem r_123_42 : xT.1 123 42 = some (.i2f, ((0, 0), ([], []))) := (kT_123 42).trans rfl
theorem r_123_43 : xT.1 123 43 = some (.iload_n 2, ((0, 0), ([], []))) := (kT_123 43).trans rfl
theorem r_123_44 : xT.1 123 44 = some (.i2f, ((0, 0), ([], []))) := (kT_123 44).trans rfl
theorem r_123_45 : xT.1 123 45 = some (.fdiv, ((0, 0), ([], []))) := (kT_123 45).trans rfl
theorem r_123_46 : xT.1 123 46 = some (.freturn, ((0, 0), ([], []))) := (kT_123 46).trans rfl
theorem kT_124 (pc : Nat) : xT.1 124 pc = xfind k_124 pc := rfl
theorem r_124_0 : xT.1 124 0 = some (.aload_n 0, ((0, 0), ([], []))) := (kT_124 0).trans rfl
theorem r_124_1 : xT.1 124 1 = some (.getfield 10, ((8, 0), ([], []))) := (kT_124 1).trans rfl
theorem r_124_4 : xT.1 124 4 = some (.invokevirtual 286, ((33, 1), ([], [0]))) := (kT_124 4).trans rfl
theorem r_124_7 : xT.1 124 7 = some (.ifCond .eq 24, ((31, 0), ([], []))) := (kT_124 7).trans rfl
theorem r_124_10 : xT.1 124 10 = some (.aload_n 0, ((0, 0), ([], []))) := (kT_124 10).trans rfl
theorem r_124_11 : xT.1 124 11 = some (.invokevirtual 290, ((143, 1), ([], [0]))) := (kT_124 11).trans rfl
theorem r_124_14 : xT.1 124 14 = some (.ifCond .eq 17, ((31, 0), ([], []))) := (kT_124 14).trans rfl
theorem r_124_17 : xT.1 124 17 = some (.aload_n 0, ((0, 0), ([], []))) := (kT_124 17).trans rfl
theorem r_124_18 : xT.1 124 18 = some (.getfield 10, ((8, 0), ([], []))) := (kT_124 18).trans rfl
theorem r_124_21 : xT.1 124 21 = some (.invokevirtual 293, ((34, 1), ([], [0]))) := (kT_124 21).trans rfl
theorem r_124_24 : xT.1 124 24 = some (.ifCond .eq 7, ((31, 0), ([], []))) := (kT_124 24).trans rfl
theorem r_124_27 : xT.1 124 27 = some (.iconst 1, ((0, 0), ([.int 1], []))) := (kT_124 27).trans rfl
theorem r_124_28 : xT.1 124 28 = some (.goto 4, ((32, 0), ([], []))) := (kT_124 28).trans rfl
theorem r_124_31 : xT.1 124 31 = some (.iconst 0, ((0, 0), ([.int 0], []))) := (kT_124 31).trans rfl
theorem r_124_32 : xT.1 124 32 = some (.ireturn, ((0, 0), ([], []))) := (kT_124 32).trans rfl
theorem kT_125 (pc : Nat) : xT.1 125 pc = xfind k_125 pc := rfl
theorem r_125_0 : xT.1 125 0 = some (.aload_n 0, ((0, 0), ([], []))) := (kT_125 0).trans rfl
theorem r_125_1 : xT.1 125 1 = some (.getfield 36, ((8, 4), ([], []))) := (kT_125 1).trans rfl
theorem r_125_4 : xT.1 125 4 = some (.invokevirtual 296, ((36, 1), ([], [0]))) := (kT_125 4).trans rfl
theorem r_125_7 : xT.1 125 7 = some (.ifCond .eq 14, ((21, 0), ([], []))) := (kT_125 7).trans rfl
theorem r_125_10 : xT.1 125 10 = some (.new 299, ((0, 0), ([], [7]))) := (kT_125 10).trans rfl
theorem r_125_21 : xT.1 125 21 = some (.aload_n 0, ((0, 0), ([], []))) := (kT_125 21).trans rfl
theorem r_125_22 : xT.1 125 22 = some (.getfield 36, ((8, 4), ([], []))) := (kT_125 22).trans rfl
theorem r_125_25 : xT.1 125 25 = some (.iload_n 1, ((0, 0), ([], []))) := (kT_125 25).trans rfl
theorem r_125_26 : xT.1 125 26 = some (.invokevirtual 304, ((37, 2), ([], [0]))) := (kT_125 26).trans rfl
theorem r_125_29 : xT.1 125 29 = some (.ireturn, ((0, 0), ([], []))) := (kT_125 29).trans rfl
theorem kT_126 (pc : Nat) : xT.1 126 pc = xfind k_126 pc := rfl
theorem r_126_0 : xT.1 126 0 = some (.aload_n 0, ((0, 0), ([], []))) := (kT_126 0).trans rfl
theorem r_126_1 : xT.1 126 1 = some (.getfield 36, ((8, 4), ([], []))) := (kT_126 1).trans rfl
theorem r_126_4 : xT.1 126 4 = some (.invokevirtual 308, ((42, 1), ([], [0]))) := (kT_126 4).trans rfl
theorem r_126_7 : xT.1 126 7 = some (.istore_n 1, ((0, 0), ([], []))) := (kT_126 7).trans rfl
theorem r_126_8 : xT.1 126 8 = some (.iload_n 1, ((0, 0), ([], []))) := (kT_126 8).trans rfl
theorem r_126_9 : xT.1 126 9 = some (.iconst (-1), ((0, 0), ([.int (-1)], []))) := (kT_126 9).trans rfl
theorem r_126_10 : xT.1 126 10 = some (.if_icmp .ne 32, ((42, 0), ([], []))) := (kT_126 10).trans rfl
theorem r_126_13 : xT.1 126 13 = some (.aload_n 0, ((0, 0), ([], []))) := (kT_126 13).trans rfl
theorem r_126_14 : xT.1 126 14 = some (.aload_n 0, ((0, 0), ([], []))) := (kT_126 14).trans rfl
theorem r_126_15 : xT.1 126 15 = some (.getfield 36, ((8, 4), ([], []))) := (kT_126 15).trans rfl
theorem r_126_18 : xT.1 126 18 = some (.invokevirtual 311, ((40, 1), ([], [0]))) := (kT_126 18).trans rfl
theorem r_126_21 : xT.1 126 21 = some (.putfield 51, ((8, 7), ([], [0]))) := (kT_126 21).trans rfl
theorem r_126_24 : xT.1 126 24 = some (.aload_n 0, ((0, 0), ([], []))) := (kT_126 24).trans rfl
theorem r_126_25 : xT.1 126 25 = some (.getfield 36, ((8, 4), ([], []))) := (kT_126 25).trans rfl
theorem r_126_28 : xT.1 126 28 = some (.invokevirtual 314, ((38, 1), ([], [0]))) := (kT_126 28).trans rfl
theorem r_126_31 : xT.1 126 31 = some (.new 203, ((1, 0), ([], [7]))) := (kT_126 31).trans rfl
theorem r_126_42 : xT.1 126 42 = some (.aload_n 0, ((0, 0), ([], []))) := (kT_126 42).trans rfl
theorem r_126_43 : xT.1 126 43 = some (.getfield 22, ((8, 2), ([], []))) := (kT_126 43).trans rfl
theorem r_126_46 : xT.1 126 46 = some (.aload_n 0, ((0, 0), ([], []))) := (kT_126 46).trans rfl
theorem r_126_47 : xT.1 126 47 = some (.getfield 10, ((8, 0), ([], []))) := (kT_126 47).trans rfl
theorem r_126_50 : xT.1 126 50 = some (.invokevirtual 319, ((65, 2), ([], [0]))) := (kT_126 50).trans rfl
theorem r_126_53 : xT.1 126 53 = some (.aload_n 0, ((0, 0), ([], []))) := (kT_126 53).trans rfl
theorem r_126_54 : xT.1 126 54 = some (.iload_n 1, ((0, 0), ([], []))) := (kT_126 54).trans rfl
theorem r_126_55 : xT.1 126 55 = some (.invokevirtual 322, ((144, 2), ([], [0]))) := (kT_126 55).trans rfl
theorem r_126_58 : xT.1 126 58 = some (.istore_n 2, ((0, 0), ([], []))) := (kT_126 58).trans rfl
theorem r_126_59 : xT.1 126 59 = some (.aload_n 0, ((0, 0), ([], []))) := (kT_126 59).trans rfl
theorem r_126_60 : xT.1 126 60 = some (.getfield 36, ((8, 4), ([], []))) := (kT_126 60).trans rfl
theorem r_126_63 : xT.1 126 63 = some (.invokevirtual 314, ((38, 1), ([], [0]))) := (kT_126 63).trans rfl
theorem r_126_66 : xT.1 126 66 = some (.iload_n 2, ((0, 0), ([], []))) := (kT_126 66).trans rfl
theorem r_126_67 : xT.1 126 67 = some (.iconst (-1), ((0, 0), ([.int (-1)], []))) := (kT_126 67).trans rfl
theorem r_126_68 : xT.1 126 68 = some (.if_icmp .eq 30, ((98, 0), ([], []))) := (kT_126 68).trans rfl
theorem r_126_71 : xT.1 126 71 = some (.aload_n 0, ((0, 0), ([], []))) := (kT_126 71).trans rfl
theorem r_126_72 : xT.1 126 72 = some (.getfield 22, ((8, 2), ([], []))) := (kT_126 72).trans rfl
theorem r_126_75 : xT.1 126 75 = some (.aload_n 0, ((0, 0), ([], []))) := (kT_126 75).trans rfl
theorem r_126_76 : xT.1 126 76 = some (.getfield 10, ((8, 0), ([], []))) := (kT_126 76).trans rfl
theorem r_126_79 : xT.1 126 79 = some (.invokevirtual 325, ((68, 2), ([], [0]))) := (kT_126 79).trans rfl
theorem r_126_82 : xT.1 126 82 = some (.aload_n 0, ((0, 0), ([], []))) := (kT_126 82).trans rfl
theorem r_126_83 : xT.1 126 83 = some (.iload_n 2, ((0, 0), ([], []))) := (kT_126 83).trans rfl
theorem r_126_84 : xT.1 126 84 = some (.putfield 55, ((8, 8), ([], [0]))) := (kT_126 84).trans rfl
theorem r_126_87 : xT.1 126 87 = some (.new 328, ((4, 0), ([], [7]))) := (kT_126 87).trans rfl
theorem r_126_98 : xT.1 126 98 = some (.aload_n 0, ((0, 0), ([], []))) := (kT_126 98).trans rfl
theorem r_126_99 : xT.1 126 99 = some (.getfield 22, ((8, 2), ([], []))) := (kT_126 99).trans rfl
theorem r_126_102 : xT.1 126 102 = some (.invokevirtual 333, ((66, 1), ([], [0]))) := (kT_126 102).trans rfl
theorem r_126_105 : xT.1 126 105 = some (.iload_n 1, ((0, 0), ([], []))) := (kT_126 105).trans rfl
theorem r_126_106 : xT.1 126 106 = some (.ireturn, ((0, 0), ([], []))) := (kT_126 106).trans rfl
theorem kT_127 (pc : Nat) : xT.1 127 pc = xfind k_127 pc := rfl
theorem r_127_0 : xT.1 127 0 = some (.aload_n 0, ((0, 0), ([], []))) := (kT_127 0).trans rfl
theorem r_127_1 : xT.1 127 1 = some (.getfield 51, ((8, 7), ([], []))) := (kT_127 1).trans rfl
theorem r_127_4 : xT.1 127 4 = some (.iconst (-1), ((0, 0), ([.int (-1)], []))) := (kT_127 4).trans rfl
theorem r_127_5 : xT.1 127 5 = some (.if_icmp .ne 14, ((19, 0), ([], []))) := (kT_127 5).trans rfl
theorem r_127_8 : xT.1 127 8 = some (.new 132, ((5, 0), ([], [7]))) := (kT_127 8).trans rfl
theorem r_127_19 : xT.1 127 19 = some (.aload_n 0, ((0, 0), ([], []))) := (kT_127 19).trans rfl
theorem r_127_20 : xT.1 127 20 = some (.getfield 51, ((8, 7), ([], []))) := (kT_127 20).trans rfl
theorem r_127_23 : xT.1 127 23 = some (.ireturn, ((0, 0), ([], []))) := (kT_127 23).trans rfl
theorem kT_128 (pc : Nat) : xT.1 128 pc = xfind k_128 pc := rfl
theorem r_128_0 : xT.1 128 0 = some (.aload_n 0, ((0, 0), ([], []))) := (kT_128 0).trans rfl
theorem r_128_1 : xT.1 128 1 = some (.getfield 55, ((8, 8), ([], []))) := (kT_128 1).trans rfl
theorem r_128_4 : xT.1 128 4 = some (.iconst (-1), ((0, 0), ([.int (-1)], []))) := (kT_128 4).trans rfl
theorem r_128_5 : xT.1 128 5 = some (.if_icmp .ne 14, ((19, 0), ([], []))) := (kT_128 5).trans rfl
theorem r_128_8 : xT.1 128 8 = some (.new 132, ((5, 0), ([], [7]))) := (kT_128 8).trans rfl
theorem r_128_19 : xT.1 128 19 = some (.aload_n 0, ((0, 0), ([], []))) := (kT_128 19).trans rfl
theorem r_128_20 : xT.1 128 20 = some (.getfield 55, ((8, 8), ([], []))) := (kT_128 20).trans rfl
theorem r_128_23 : xT.1 128 23 = some (.ireturn, ((0, 0), ([], []))) := (kT_128 23).trans rfl
