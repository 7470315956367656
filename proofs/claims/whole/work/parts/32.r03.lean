/-! the rows of the tables, one by one -/
theorem kT_172 (pc : Nat) : xT.1 172 pc = xfind k_172 pc := rfl
theorem r_172_0 : xT.1 172 0 = some (.iload_n 1, ((0, 0), ([], []))) := (kT_172 0).trans rfl
theorem r_172_1 : xT.1 172 1 = some (.iconst 0, ((0, 0), ([.int 0], []))) := (kT_172 1).trans rfl
theorem r_172_2 : xT.1 172 2 = some (.sipush 999, ((0, 0), ([.int 999], []))) := (kT_172 2).trans rfl
theorem r_172_5 : xT.1 172 5 = some (.invokestatic 52, ((150, 3), ([], [1]))) := (kT_172 5).trans rfl
theorem r_172_8 : xT.1 172 8 = some (.ifCond .ne 9, ((17, 0), ([], []))) := (kT_172 8).trans rfl
theorem r_172_11 : xT.1 172 11 = some (.aload_n 0, ((0, 0), ([], []))) := (kT_172 11).trans rfl
theorem r_172_12 : xT.1 172 12 = some (.iconst 1, ((0, 0), ([.int 1], []))) := (kT_172 12).trans rfl
theorem r_172_13 : xT.1 172 13 = some (.invokevirtual 60, ((153, 2), ([], [0]))) := (kT_172 13).trans rfl
theorem r_172_16 : xT.1 172 16 = some (.ireturn, ((0, 0), ([], []))) := (kT_172 16).trans rfl
theorem r_172_17 : xT.1 172 17 = some (.aload_n 0, ((0, 0), ([], []))) := (kT_172 17).trans rfl
theorem r_172_18 : xT.1 172 18 = some (.getfield 7, ((9, 0), ([], []))) := (kT_172 18).trans rfl
theorem r_172_21 : xT.1 172 21 = some (.iconst 1, ((0, 0), ([.int 1], []))) := (kT_172 21).trans rfl
theorem r_172_22 : xT.1 172 22 = some (.iaload, ((0, 0), ([], []))) := (kT_172 22).trans rfl
theorem r_172_23 : xT.1 172 23 = some (.ifCond .ne 9, ((32, 0), ([], []))) := (kT_172 23).trans rfl
theorem r_172_26 : xT.1 172 26 = some (.aload_n 0, ((0, 0), ([], []))) := (kT_172 26).trans rfl
theorem r_172_27 : xT.1 172 27 = some (.iconst 2, ((0, 0), ([.int 2], []))) := (kT_172 27).trans rfl
theorem r_172_28 : xT.1 172 28 = some (.invokevirtual 60, ((153, 2), ([], [0]))) := (kT_172 28).trans rfl
theorem r_172_31 : xT.1 172 31 = some (.ireturn, ((0, 0), ([], []))) := (kT_172 31).trans rfl
theorem r_172_32 : xT.1 172 32 = some (.iconst 0, ((0, 0), ([.int 0], []))) := (kT_172 32).trans rfl
theorem r_172_33 : xT.1 172 33 = some (.istore_n 2, ((0, 0), ([], []))) := (kT_172 33).trans rfl
theorem r_172_34 : xT.1 172 34 = some (.iconst 0, ((0, 0), ([.int 0], []))) := (kT_172 34).trans rfl
theorem r_172_35 : xT.1 172 35 = some (.istore_n 3, ((0, 0), ([], []))) := (kT_172 35).trans rfl
theorem r_172_36 : xT.1 172 36 = some (.iload_n 3, ((0, 0), ([], []))) := (kT_172 36).trans rfl
theorem r_172_37 : xT.1 172 37 = some (.aload_n 0, ((0, 0), ([], []))) := (kT_172 37).trans rfl
theorem r_172_38 : xT.1 172 38 = some (.getfield 7, ((9, 0), ([], []))) := (kT_172 38).trans rfl
theorem r_172_41 : xT.1 172 41 = some (.sipush 132, ((0, 0), ([.int 132], []))) := (kT_172 41).trans rfl
theorem r_172_44 : xT.1 172 44 = some (.iaload, ((0, 0), ([], []))) := (kT_172 44).trans rfl
theorem r_172_45 : xT.1 172 45 = some (.if_icmp .ge 29, ((74, 0), ([], []))) := (kT_172 45).trans rfl
theorem r_172_48 : xT.1 172 48 = some (.iload_n 2, ((0, 0), ([], []))) := (kT_172 48).trans rfl
theorem r_172_49 : xT.1 172 49 = some (.aload_n 0, ((0, 0), ([], []))) := (kT_172 49).trans rfl
theorem r_172_50 : xT.1 172 50 = some (.iconst 0, ((0, 0), ([.int 0], []))) := (kT_172 50).trans rfl
theorem r_172_51 : xT.1 172 51 = some (.iload_n 3, ((0, 0), ([], []))) := (kT_172 51).trans rfl
theorem r_172_52 : xT.1 172 52 = some (.invokestatic 56, ((159, 2), ([], [1]))) := (kT_172 52).trans rfl
theorem r_172_55 : xT.1 172 55 = some (.aload_n 0, ((0, 0), ([], []))) := (kT_172 55).trans rfl
theorem r_172_56 : xT.1 172 56 = some (.getfield 7, ((9, 0), ([], []))) := (kT_172 56).trans rfl
theorem r_172_59 : xT.1 172 59 = some (.bipush 126, ((0, 0), ([.int 126], []))) := (kT_172 59).trans rfl
theorem r_172_61 : xT.1 172 61 = some (.iaload, ((0, 0), ([], []))) := (kT_172 61).trans rfl
theorem r_172_62 : xT.1 172 62 = some (.iload_n 1, ((0, 0), ([], []))) := (kT_172 62).trans rfl
theorem r_172_63 : xT.1 172 63 = some (.invokevirtual 105, ((169, 4), ([], [0]))) := (kT_172 63).trans rfl
theorem r_172_66 : xT.1 172 66 = some (.iadd, ((0, 0), ([], []))) := (kT_172 66).trans rfl
theorem r_172_67 : xT.1 172 67 = some (.istore_n 2, ((0, 0), ([], []))) := (kT_172 67).trans rfl
theorem r_172_68 : xT.1 172 68 = some (.iinc 3 1, ((0, 0), ([.int (1)], []))) := (kT_172 68).trans rfl
theorem r_172_71 : xT.1 172 71 = some (.goto (-35), ((36, 0), ([], []))) := (kT_172 71).trans rfl
theorem r_172_74 : xT.1 172 74 = some (.aload_n 0, ((0, 0), ([], []))) := (kT_172 74).trans rfl
theorem r_172_75 : xT.1 172 75 = some (.invokevirtual 109, ((171, 1), ([], [0]))) := (kT_172 75).trans rfl
theorem r_172_78 : xT.1 172 78 = some (.aload_n 0, ((0, 0), ([], []))) := (kT_172 78).trans rfl
theorem r_172_79 : xT.1 172 79 = some (.getfield 7, ((9, 0), ([], []))) := (kT_172 79).trans rfl
theorem r_172_82 : xT.1 172 82 = some (.iconst 5, ((0, 0), ([.int 5], []))) := (kT_172 82).trans rfl
theorem r_172_83 : xT.1 172 83 = some (.aload_n 0, ((0, 0), ([], []))) := (kT_172 83).trans rfl
theorem r_172_84 : xT.1 172 84 = some (.getfield 7, ((9, 0), ([], []))) := (kT_172 84).trans rfl
theorem r_172_87 : xT.1 172 87 = some (.iconst 4, ((0, 0), ([.int 4], []))) := (kT_172 87).trans rfl
theorem r_172_88 : xT.1 172 88 = some (.iaload, ((0, 0), ([], []))) := (kT_172 88).trans rfl
theorem r_172_89 : xT.1 172 89 = some (.iconst 5, ((0, 0), ([.int 5], []))) := (kT_172 89).trans rfl
theorem r_172_90 : xT.1 172 90 = some (.irem, ((0, 0), ([], []))) := (kT_172 90).trans rfl
theorem r_172_91 : xT.1 172 91 = some (.iadd, ((0, 0), ([], []))) := (kT_172 91).trans rfl
theorem r_172_92 : xT.1 172 92 = some (.iload_n 1, ((0, 0), ([], []))) := (kT_172 92).trans rfl
theorem r_172_93 : xT.1 172 93 = some (.iastore, ((0, 0), ([], []))) := (kT_172 93).trans rfl
theorem r_172_94 : xT.1 172 94 = some (.aload_n 0, ((0, 0), ([], []))) := (kT_172 94).trans rfl
theorem r_172_95 : xT.1 172 95 = some (.getfield 7, ((9, 0), ([], []))) := (kT_172 95).trans rfl
theorem r_172_98 : xT.1 172 98 = some (.iconst 4, ((0, 0), ([.int 4], []))) := (kT_172 98).trans rfl
theorem r_172_99 : xT.1 172 99 = some (.dup2, ((0, 0), ([], []))) := (kT_172 99).trans rfl
theorem r_172_100 : xT.1 172 100 = some (.iaload, ((0, 0), ([], []))) := (kT_172 100).trans rfl
theorem r_172_101 : xT.1 172 101 = some (.iconst 1, ((0, 0), ([.int 1], []))) := (kT_172 101).trans rfl
theorem r_172_102 : xT.1 172 102 = some (.iadd, ((0, 0), ([], []))) := (kT_172 102).trans rfl
theorem r_172_103 : xT.1 172 103 = some (.iastore, ((0, 0), ([], []))) := (kT_172 103).trans rfl
theorem r_172_104 : xT.1 172 104 = some (.aload_n 0, ((0, 0), ([], []))) := (kT_172 104).trans rfl
theorem r_172_105 : xT.1 172 105 = some (.iload_n 2, ((0, 0), ([], []))) := (kT_172 105).trans rfl
theorem r_172_106 : xT.1 172 106 = some (.invokevirtual 64, ((152, 2), ([], [0]))) := (kT_172 106).trans rfl
theorem r_172_109 : xT.1 172 109 = some (.ireturn, ((0, 0), ([], []))) := (kT_172 109).trans rfl
theorem kT_173 (pc : Nat) : xT.1 173 pc = xfind k_173 pc := rfl
theorem r_173_0 : xT.1 173 0 = some (.aload_n 0, ((0, 0), ([], []))) := (kT_173 0).trans rfl
theorem r_173_1 : xT.1 173 1 = some (.invokevirtual 67, ((155, 1), ([], [0]))) := (kT_173 1).trans rfl
theorem r_173_4 : xT.1 173 4 = some (.aload_n 0, ((0, 0), ([], []))) := (kT_173 4).trans rfl
theorem r_173_5 : xT.1 173 5 = some (.aload_n 0, ((0, 0), ([], []))) := (kT_173 5).trans rfl
theorem r_173_6 : xT.1 173 6 = some (.iload_n 1, ((0, 0), ([], []))) := (kT_173 6).trans rfl
theorem r_173_7 : xT.1 173 7 = some (.invokevirtual 112, ((172, 2), ([], [0]))) := (kT_173 7).trans rfl
theorem r_173_10 : xT.1 173 10 = some (.invokevirtual 74, ((156, 2), ([], [0]))) := (kT_173 10).trans rfl
theorem r_173_13 : xT.1 173 13 = some (.ireturn, ((0, 0), ([], []))) := (kT_173 13).trans rfl
theorem kT_174 (pc : Nat) : xT.1 174 pc = xfind k_174 pc := rfl
theorem r_174_0 : xT.1 174 0 = some (.aload_n 0, ((0, 0), ([], []))) := (kT_174 0).trans rfl
theorem r_174_1 : xT.1 174 1 = some (.getfield 7, ((9, 0), ([], []))) := (kT_174 1).trans rfl
theorem r_174_4 : xT.1 174 4 = some (.iconst 1, ((0, 0), ([.int 1], []))) := (kT_174 4).trans rfl
theorem r_174_5 : xT.1 174 5 = some (.iaload, ((0, 0), ([], []))) := (kT_174 5).trans rfl
theorem r_174_6 : xT.1 174 6 = some (.ifCond .ne 9, ((15, 0), ([], []))) := (kT_174 6).trans rfl
theorem r_174_9 : xT.1 174 9 = some (.aload_n 0, ((0, 0), ([], []))) := (kT_174 9).trans rfl
theorem r_174_10 : xT.1 174 10 = some (.iconst 1, ((0, 0), ([.int 1], []))) := (kT_174 10).trans rfl
theorem r_174_11 : xT.1 174 11 = some (.invokevirtual 60, ((153, 2), ([], [0]))) := (kT_174 11).trans rfl
theorem r_174_14 : xT.1 174 14 = some (.ireturn, ((0, 0), ([], []))) := (kT_174 14).trans rfl
theorem r_174_15 : xT.1 174 15 = some (.aload_n 0, ((0, 0), ([], []))) := (kT_174 15).trans rfl
theorem r_174_16 : xT.1 174 16 = some (.getfield 36, ((9, 13), ([], []))) := (kT_174 16).trans rfl
theorem r_174_19 : xT.1 174 19 = some (.bipush 25, ((0, 0), ([.int 25], []))) := (kT_174 19).trans rfl
theorem r_174_21 : xT.1 174 21 = some (.aload_n 0, ((0, 0), ([], []))) := (kT_174 21).trans rfl
theorem r_174_22 : xT.1 174 22 = some (.getfield 7, ((9, 0), ([], []))) := (kT_174 22).trans rfl
theorem r_174_25 : xT.1 174 25 = some (.bipush 120, ((0, 0), ([.int 120], []))) := (kT_174 25).trans rfl
theorem r_174_27 : xT.1 174 27 = some (.iaload, ((0, 0), ([], []))) := (kT_174 27).trans rfl
theorem r_174_28 : xT.1 174 28 = some (.iastore, ((0, 0), ([], []))) := (kT_174 28).trans rfl
theorem r_174_29 : xT.1 174 29 = some (.aload_n 0, ((0, 0), ([], []))) := (kT_174 29).trans rfl
theorem r_174_30 : xT.1 174 30 = some (.getfield 36, ((9, 13), ([], []))) := (kT_174 30).trans rfl
theorem r_174_33 : xT.1 174 33 = some (.bipush 26, ((0, 0), ([.int 26], []))) := (kT_174 33).trans rfl
theorem r_174_35 : xT.1 174 35 = some (.aload_n 0, ((0, 0), ([], []))) := (kT_174 35).trans rfl
theorem r_174_36 : xT.1 174 36 = some (.getfield 7, ((9, 0), ([], []))) := (kT_174 36).trans rfl
theorem r_174_39 : xT.1 174 39 = some (.bipush 126, ((0, 0), ([.int 126], []))) := (kT_174 39).trans rfl
theorem r_174_41 : xT.1 174 41 = some (.iaload, ((0, 0), ([], []))) := (kT_174 41).trans rfl
theorem r_174_42 : xT.1 174 42 = some (.iastore, ((0, 0), ([], []))) := (kT_174 42).trans rfl
theorem r_174_43 : xT.1 174 43 = some (.aload_n 0, ((0, 0), ([], []))) := (kT_174 43).trans rfl
theorem r_174_44 : xT.1 174 44 = some (.getfield 36, ((9, 13), ([], []))) := (kT_174 44).trans rfl
theorem r_174_47 : xT.1 174 47 = some (.bipush 27, ((0, 0), ([.int 27], []))) := (kT_174 47).trans rfl
theorem r_174_49 : xT.1 174 49 = some (.aload_n 0, ((0, 0), ([], []))) := (kT_174 49).trans rfl
theorem r_174_50 : xT.1 174 50 = some (.getfield 7, ((9, 0), ([], []))) := (kT_174 50).trans rfl
theorem r_174_53 : xT.1 174 53 = some (.sipush 132, ((0, 0), ([.int 132], []))) := (kT_174 53).trans rfl
theorem r_174_56 : xT.1 174 56 = some (.iaload, ((0, 0), ([], []))) := (kT_174 56).trans rfl
theorem r_174_57 : xT.1 174 57 = some (.iastore, ((0, 0), ([], []))) := (kT_174 57).trans rfl
theorem r_174_58 : xT.1 174 58 = some (.iconst 0, ((0, 0), ([.int 0], []))) := (kT_174 58).trans rfl
theorem r_174_59 : xT.1 174 59 = some (.istore_n 1, ((0, 0), ([], []))) := (kT_174 59).trans rfl
theorem r_174_60 : xT.1 174 60 = some (.iload_n 1, ((0, 0), ([], []))) := (kT_174 60).trans rfl
theorem r_174_61 : xT.1 174 61 = some (.bipush 25, ((0, 0), ([.int 25], []))) := (kT_174 61).trans rfl
theorem r_174_63 : xT.1 174 63 = some (.if_icmp .ge 25, ((88, 0), ([], []))) := (kT_174 63).trans rfl
theorem r_174_66 : xT.1 174 66 = some (.aload_n 0, ((0, 0), ([], []))) := (kT_174 66).trans rfl
theorem r_174_67 : xT.1 174 67 = some (.getfield 36, ((9, 13), ([], []))) := (kT_174 67).trans rfl
theorem r_174_70 : xT.1 174 70 = some (.iload_n 1, ((0, 0), ([], []))) := (kT_174 70).trans rfl
theorem r_174_71 : xT.1 174 71 = some (.aload_n 0, ((0, 0), ([], []))) := (kT_174 71).trans rfl
theorem r_174_72 : xT.1 174 72 = some (.getfield 7, ((9, 0), ([], []))) := (kT_174 72).trans rfl
theorem r_174_75 : xT.1 174 75 = some (.sipush 138, ((0, 0), ([.int 138], []))) := (kT_174 75).trans rfl
theorem r_174_78 : xT.1 174 78 = some (.iload_n 1, ((0, 0), ([], []))) := (kT_174 78).trans rfl
theorem r_174_79 : xT.1 174 79 = some (.iadd, ((0, 0), ([], []))) := (kT_174 79).trans rfl
theorem r_174_80 : xT.1 174 80 = some (.iaload, ((0, 0), ([], []))) := (kT_174 80).trans rfl
theorem r_174_81 : xT.1 174 81 = some (.iastore, ((0, 0), ([], []))) := (kT_174 81).trans rfl
theorem r_174_82 : xT.1 174 82 = some (.iinc 1 1, ((0, 0), ([.int (1)], []))) := (kT_174 82).trans rfl
theorem r_174_85 : xT.1 174 85 = some (.goto (-25), ((60, 0), ([], []))) := (kT_174 85).trans rfl
theorem r_174_88 : xT.1 174 88 = some (.aload_n 0, ((0, 0), ([], []))) := (kT_174 88).trans rfl
theorem r_174_89 : xT.1 174 89 = some (.invokevirtual 109, ((171, 1), ([], [0]))) := (kT_174 89).trans rfl
theorem r_174_92 : xT.1 174 92 = some (.aload_n 0, ((0, 0), ([], []))) := (kT_174 92).trans rfl
theorem r_174_93 : xT.1 174 93 = some (.getfield 7, ((9, 0), ([], []))) := (kT_174 93).trans rfl
theorem r_174_96 : xT.1 174 96 = some (.iconst 1, ((0, 0), ([.int 1], []))) := (kT_174 96).trans rfl
theorem r_174_97 : xT.1 174 97 = some (.iaload, ((0, 0), ([], []))) := (kT_174 97).trans rfl
theorem r_174_98 : xT.1 174 98 = some (.istore_n 1, ((0, 0), ([], []))) := (kT_174 98).trans rfl
theorem r_174_99 : xT.1 174 99 = some (.aload_n 0, ((0, 0), ([], []))) := (kT_174 99).trans rfl
theorem r_174_100 : xT.1 174 100 = some (.getfield 7, ((9, 0), ([], []))) := (kT_174 100).trans rfl
theorem r_174_103 : xT.1 174 103 = some (.bipush 120, ((0, 0), ([.int 120], []))) := (kT_174 103).trans rfl
theorem r_174_105 : xT.1 174 105 = some (.iload_n 1, ((0, 0), ([], []))) := (kT_174 105).trans rfl
theorem r_174_106 : xT.1 174 106 = some (.iadd, ((0, 0), ([], []))) := (kT_174 106).trans rfl
theorem r_174_107 : xT.1 174 107 = some (.aload_n 0, ((0, 0), ([], []))) := (kT_174 107).trans rfl
theorem r_174_108 : xT.1 174 108 = some (.getfield 36, ((9, 13), ([], []))) := (kT_174 108).trans rfl
theorem r_174_111 : xT.1 174 111 = some (.bipush 25, ((0, 0), ([.int 25], []))) := (kT_174 111).trans rfl
theorem r_174_113 : xT.1 174 113 = some (.iaload, ((0, 0), ([], []))) := (kT_174 113).trans rfl
theorem r_174_114 : xT.1 174 114 = some (.iastore, ((0, 0), ([], []))) := (kT_174 114).trans rfl
theorem r_174_115 : xT.1 174 115 = some (.aload_n 0, ((0, 0), ([], []))) := (kT_174 115).trans rfl
theorem r_174_116 : xT.1 174 116 = some (.getfield 7, ((9, 0), ([], []))) := (kT_174 116).trans rfl
theorem r_174_119 : xT.1 174 119 = some (.bipush 126, ((0, 0), ([.int 126], []))) := (kT_174 119).trans rfl
theorem r_174_121 : xT.1 174 121 = some (.iload_n 1, ((0, 0), ([], []))) := (kT_174 121).trans rfl
theorem r_174_122 : xT.1 174 122 = some (.iadd, ((0, 0), ([], []))) := (kT_174 122).trans rfl
theorem r_174_123 : xT.1 174 123 = some (.aload_n 0, ((0, 0), ([], []))) := (kT_174 123).trans rfl
theorem r_174_124 : xT.1 174 124 = some (.getfield 36, ((9, 13), ([], []))) := (kT_174 124).trans rfl
theorem r_174_127 : xT.1 174 127 = some (.bipush 26, ((0, 0), ([.int 26], []))) := (kT_174 127).trans rfl
theorem r_174_129 : xT.1 174 129 = some (.iaload, ((0, 0), ([], []))) := (kT_174 129).trans rfl
theorem r_174_130 : xT.1 174 130 = some (.iastore, ((0, 0), ([], []))) := (kT_174 130).trans rfl
theorem r_174_131 : xT.1 174 131 = some (.aload_n 0, ((0, 0), ([], []))) := (kT_174 131).trans rfl
theorem r_174_132 : xT.1 174 132 = some (.getfield 7, ((9, 0), ([], []))) := (kT_174 132).trans rfl
theorem r_174_135 : xT.1 174 135 = some (.sipush 132, ((0, 0), ([.int 132], []))) := (kT_174 135).trans rfl
theorem r_174_138 : xT.1 174 138 = some (.iload_n 1, ((0, 0), ([], []))) := (kT_174 138).trans rfl
theorem r_174_139 : xT.1 174 139 = some (.iadd, ((0, 0), ([], []))) := (kT_174 139).trans rfl
theorem r_174_140 : xT.1 174 140 = some (.aload_n 0, ((0, 0), ([], []))) := (kT_174 140).trans rfl
theorem r_174_141 : xT.1 174 141 = some (.getfield 36, ((9, 13), ([], []))) := (kT_174 141).trans rfl
theorem r_174_144 : xT.1 174 144 = some (.bipush 27, ((0, 0), ([.int 27], []))) := (kT_174 144).trans rfl
theorem r_174_146 : xT.1 174 146 = some (.iaload, ((0, 0), ([], []))) := (kT_174 146).trans rfl
theorem r_174_147 : xT.1 174 147 = some (.iastore, ((0, 0), ([], []))) := (kT_174 147).trans rfl
theorem r_174_148 : xT.1 174 148 = some (.iconst 0, ((0, 0), ([.int 0], []))) := (kT_174 148).trans rfl
theorem r_174_149 : xT.1 174 149 = some (.istore_n 2, ((0, 0), ([], []))) := (kT_174 149).trans rfl
theorem r_174_150 : xT.1 174 150 = some (.iload_n 2, ((0, 0), ([], []))) := (kT_174 150).trans rfl
theorem r_174_151 : xT.1 174 151 = some (.bipush 25, ((0, 0), ([.int 25], []))) := (kT_174 151).trans rfl
theorem r_174_153 : xT.1 174 153 = some (.if_icmp .ge 27, ((180, 0), ([], []))) := (kT_174 153).trans rfl
theorem r_174_156 : xT.1 174 156 = some (.aload_n 0, ((0, 0), ([], []))) := (kT_174 156).trans rfl
theorem r_174_157 : xT.1 174 157 = some (.getfield 7, ((9, 0), ([], []))) := (kT_174 157).trans rfl
theorem r_174_160 : xT.1 174 160 = some (.iload_n 1, ((0, 0), ([], []))) := (kT_174 160).trans rfl
theorem r_174_161 : xT.1 174 161 = some (.iconst 0, ((0, 0), ([.int 0], []))) := (kT_174 161).trans rfl
theorem r_174_162 : xT.1 174 162 = some (.invokestatic 56, ((159, 2), ([], [1]))) := (kT_174 162).trans rfl
theorem r_174_165 : xT.1 174 165 = some (.iload_n 2, ((0, 0), ([], []))) := (kT_174 165).trans rfl
theorem r_174_166 : xT.1 174 166 = some (.iadd, ((0, 0), ([], []))) := (kT_174 166).trans rfl
theorem r_174_167 : xT.1 174 167 = some (.aload_n 0, ((0, 0), ([], []))) := (kT_174 167).trans rfl
theorem r_174_168 : xT.1 174 168 = some (.getfield 36, ((9, 13), ([], []))) := (kT_174 168).trans rfl
theorem r_174_171 : xT.1 174 171 = some (.iload_n 2, ((0, 0), ([], []))) := (kT_174 171).trans rfl
theorem r_174_172 : xT.1 174 172 = some (.iaload, ((0, 0), ([], []))) := (kT_174 172).trans rfl
theorem r_174_173 : xT.1 174 173 = some (.iastore, ((0, 0), ([], []))) := (kT_174 173).trans rfl
theorem r_174_174 : xT.1 174 174 = some (.iinc 2 1, ((0, 0), ([.int (1)], []))) := (kT_174 174).trans rfl
theorem r_174_177 : xT.1 174 177 = some (.goto (-27), ((150, 0), ([], []))) := (kT_174 177).trans rfl
theorem r_174_180 : xT.1 174 180 = some (.aload_n 0, ((0, 0), ([], []))) := (kT_174 180).trans rfl
theorem r_174_181 : xT.1 174 181 = some (.getfield 7, ((9, 0), ([], []))) := (kT_174 181).trans rfl
theorem r_174_184 : xT.1 174 184 = some (.iconst 1, ((0, 0), ([.int 1], []))) := (kT_174 184).trans rfl
theorem r_174_185 : xT.1 174 185 = some (.dup2, ((0, 0), ([], []))) := (kT_174 185).trans rfl
theorem r_174_186 : xT.1 174 186 = some (.iaload, ((0, 0), ([], []))) := (kT_174 186).trans rfl
theorem r_174_187 : xT.1 174 187 = some (.iconst 1, ((0, 0), ([.int 1], []))) := (kT_174 187).trans rfl
theorem r_174_188 : xT.1 174 188 = some (.iadd, ((0, 0), ([], []))) := (kT_174 188).trans rfl
theorem r_174_189 : xT.1 174 189 = some (.iastore, ((0, 0), ([], []))) := (kT_174 189).trans rfl
theorem r_174_190 : xT.1 174 190 = some (.aload_n 0, ((0, 0), ([], []))) := (kT_174 190).trans rfl
theorem r_174_191 : xT.1 174 191 = some (.aload_n 0, ((0, 0), ([], []))) := (kT_174 191).trans rfl
theorem r_174_192 : xT.1 174 192 = some (.getfield 7, ((9, 0), ([], []))) := (kT_174 192).trans rfl
theorem r_174_195 : xT.1 174 195 = some (.bipush 120, ((0, 0), ([.int 120], []))) := (kT_174 195).trans rfl
theorem r_174_197 : xT.1 174 197 = some (.iaload, ((0, 0), ([], []))) := (kT_174 197).trans rfl
theorem r_174_198 : xT.1 174 198 = some (.invokevirtual 64, ((152, 2), ([], [0]))) := (kT_174 198).trans rfl
theorem r_174_201 : xT.1 174 201 = some (.ireturn, ((0, 0), ([], []))) := (kT_174 201).trans rfl
theorem kT_175 (pc : Nat) : xT.1 175 pc = xfind k_175 pc := rfl
theorem r_175_0 : xT.1 175 0 = some (.aload_n 0, ((0, 0), ([], []))) := (kT_175 0).trans rfl
theorem r_175_1 : xT.1 175 1 = some (.invokevirtual 67, ((155, 1), ([], [0]))) := (kT_175 1).trans rfl
theorem r_175_4 : xT.1 175 4 = some (.aload_n 0, ((0, 0), ([], []))) := (kT_175 4).trans rfl
theorem r_175_5 : xT.1 175 5 = some (.aload_n 0, ((0, 0), ([], []))) := (kT_175 5).trans rfl
theorem r_175_6 : xT.1 175 6 = some (.invokevirtual 115, ((174, 1), ([], [0]))) := (kT_175 6).trans rfl
theorem r_175_9 : xT.1 175 9 = some (.invokevirtual 74, ((156, 2), ([], [0]))) := (kT_175 9).trans rfl
theorem r_175_12 : xT.1 175 12 = some (.ireturn, ((0, 0), ([], []))) := (kT_175 12).trans rfl
theorem kT_176 (pc : Nat) : xT.1 176 pc = xfind k_176 pc := rfl
theorem r_176_0 : xT.1 176 0 = some (.iload_n 1, ((0, 0), ([], []))) := (kT_176 0).trans rfl
theorem r_176_1 : xT.1 176 1 = some (.iload_n 2, ((0, 0), ([], []))) := (kT_176 1).trans rfl
theorem r_176_2 : xT.1 176 2 = some (.invokestatic 56, ((159, 2), ([], [1]))) := (kT_176 2).trans rfl
theorem r_176_5 : xT.1 176 5 = some (.istore_n 3, ((0, 0), ([], []))) := (kT_176 5).trans rfl
theorem r_176_6 : xT.1 176 6 = some (.iload_n 3, ((0, 0), ([], []))) := (kT_176 6).trans rfl
theorem r_176_7 : xT.1 176 7 = some (.iload_n 1, ((0, 0), ([], []))) := (kT_176 7).trans rfl
theorem r_176_8 : xT.1 176 8 = some (.iconst 0, ((0, 0), ([.int 0], []))) := (kT_176 8).trans rfl
theorem r_176_9 : xT.1 176 9 = some (.invokestatic 56, ((159, 2), ([], [1]))) := (kT_176 9).trans rfl
theorem r_176_12 : xT.1 176 12 = some (.bipush 25, ((0, 0), ([.int 25], []))) := (kT_176 12).trans rfl
theorem r_176_14 : xT.1 176 14 = some (.iadd, ((0, 0), ([], []))) := (kT_176 14).trans rfl
theorem r_176_15 : xT.1 176 15 = some (.iconst 5, ((0, 0), ([.int 5], []))) := (kT_176 15).trans rfl
theorem r_176_16 : xT.1 176 16 = some (.isub, ((0, 0), ([], []))) := (kT_176 16).trans rfl
theorem r_176_17 : xT.1 176 17 = some (.if_icmp .ge 23, ((40, 0), ([], []))) := (kT_176 17).trans rfl
theorem r_176_20 : xT.1 176 20 = some (.aload_n 0, ((0, 0), ([], []))) := (kT_176 20).trans rfl
theorem r_176_21 : xT.1 176 21 = some (.getfield 7, ((9, 0), ([], []))) := (kT_176 21).trans rfl
theorem r_176_24 : xT.1 176 24 = some (.iload_n 3, ((0, 0), ([], []))) := (kT_176 24).trans rfl
theorem r_176_25 : xT.1 176 25 = some (.aload_n 0, ((0, 0), ([], []))) := (kT_176 25).trans rfl
theorem r_176_26 : xT.1 176 26 = some (.getfield 7, ((9, 0), ([], []))) := (kT_176 26).trans rfl
theorem r_176_29 : xT.1 176 29 = some (.iload_n 3, ((0, 0), ([], []))) := (kT_176 29).trans rfl
theorem r_176_30 : xT.1 176 30 = some (.iconst 5, ((0, 0), ([.int 5], []))) := (kT_176 30).trans rfl
theorem r_176_31 : xT.1 176 31 = some (.iadd, ((0, 0), ([], []))) := (kT_176 31).trans rfl
theorem r_176_32 : xT.1 176 32 = some (.iaload, ((0, 0), ([], []))) := (kT_176 32).trans rfl
theorem r_176_33 : xT.1 176 33 = some (.iastore, ((0, 0), ([], []))) := (kT_176 33).trans rfl
theorem r_176_34 : xT.1 176 34 = some (.iinc 3 1, ((0, 0), ([.int (1)], []))) := (kT_176 34).trans rfl
theorem r_176_37 : xT.1 176 37 = some (.goto (-31), ((6, 0), ([], []))) := (kT_176 37).trans rfl
theorem r_176_40 : xT.1 176 40 = some (.aload_n 0, ((0, 0), ([], []))) := (kT_176 40).trans rfl
theorem r_176_41 : xT.1 176 41 = some (.getfield 7, ((9, 0), ([], []))) := (kT_176 41).trans rfl
theorem r_176_44 : xT.1 176 44 = some (.sipush 132, ((0, 0), ([.int 132], []))) := (kT_176 44).trans rfl
theorem r_176_47 : xT.1 176 47 = some (.iload_n 1, ((0, 0), ([], []))) := (kT_176 47).trans rfl
theorem r_176_48 : xT.1 176 48 = some (.iadd, ((0, 0), ([], []))) := (kT_176 48).trans rfl
theorem r_176_49 : xT.1 176 49 = some (.dup2, ((0, 0), ([], []))) := (kT_176 49).trans rfl
theorem r_176_50 : xT.1 176 50 = some (.iaload, ((0, 0), ([], []))) := (kT_176 50).trans rfl
theorem r_176_51 : xT.1 176 51 = some (.iconst 1, ((0, 0), ([.int 1], []))) := (kT_176 51).trans rfl
theorem r_176_52 : xT.1 176 52 = some (.isub, ((0, 0), ([], []))) := (kT_176 52).trans rfl
theorem r_176_53 : xT.1 176 53 = some (.iastore, ((0, 0), ([], []))) := (kT_176 53).trans rfl
theorem r_176_54 : xT.1 176 54 = some (.return_, ((0, 0), ([], []))) := (kT_176 54).trans rfl
theorem kT_177 (pc : Nat) : xT.1 177 pc = xfind k_177 pc := rfl
theorem r_177_0 : xT.1 177 0 = some (.aload_n 0, ((0, 0), ([], []))) := (kT_177 0).trans rfl
theorem r_177_1 : xT.1 177 1 = some (.iload_n 1, ((0, 0), ([], []))) := (kT_177 1).trans rfl
theorem r_177_2 : xT.1 177 2 = some (.invokevirtual 80, ((157, 2), ([], [0]))) := (kT_177 2).trans rfl
theorem r_177_5 : xT.1 177 5 = some (.ifCond .ne 9, ((14, 0), ([], []))) := (kT_177 5).trans rfl
theorem r_177_8 : xT.1 177 8 = some (.aload_n 0, ((0, 0), ([], []))) := (kT_177 8).trans rfl
theorem r_177_9 : xT.1 177 9 = some (.iconst 1, ((0, 0), ([.int 1], []))) := (kT_177 9).trans rfl
theorem r_177_10 : xT.1 177 10 = some (.invokevirtual 60, ((153, 2), ([], [0]))) := (kT_177 10).trans rfl
theorem r_177_13 : xT.1 177 13 = some (.ireturn, ((0, 0), ([], []))) := (kT_177 13).trans rfl
theorem r_177_14 : xT.1 177 14 = some (.aload_n 0, ((0, 0), ([], []))) := (kT_177 14).trans rfl
theorem r_177_15 : xT.1 177 15 = some (.getfield 7, ((9, 0), ([], []))) := (kT_177 15).trans rfl
theorem r_177_18 : xT.1 177 18 = some (.bipush 15, ((0, 0), ([.int 15], []))) := (kT_177 18).trans rfl
theorem r_177_20 : xT.1 177 20 = some (.iload_n 1, ((0, 0), ([], []))) := (kT_177 20).trans rfl
theorem r_177_21 : xT.1 177 21 = some (.iadd, ((0, 0), ([], []))) := (kT_177 21).trans rfl
theorem r_177_22 : xT.1 177 22 = some (.iaload, ((0, 0), ([], []))) := (kT_177 22).trans rfl
theorem r_177_23 : xT.1 177 23 = some (.iconst 1, ((0, 0), ([.int 1], []))) := (kT_177 23).trans rfl
theorem r_177_24 : xT.1 177 24 = some (.if_icmp .ne 9, ((33, 0), ([], []))) := (kT_177 24).trans rfl
theorem r_177_27 : xT.1 177 27 = some (.aload_n 0, ((0, 0), ([], []))) := (kT_177 27).trans rfl
theorem r_177_28 : xT.1 177 28 = some (.iconst 2, ((0, 0), ([.int 2], []))) := (kT_177 28).trans rfl
theorem r_177_29 : xT.1 177 29 = some (.invokevirtual 60, ((153, 2), ([], [0]))) := (kT_177 29).trans rfl
theorem r_177_32 : xT.1 177 32 = some (.ireturn, ((0, 0), ([], []))) := (kT_177 32).trans rfl
theorem r_177_33 : xT.1 177 33 = some (.iconst 0, ((0, 0), ([.int 0], []))) := (kT_177 33).trans rfl
theorem r_177_34 : xT.1 177 34 = some (.istore_n 2, ((0, 0), ([], []))) := (kT_177 34).trans rfl
theorem r_177_35 : xT.1 177 35 = some (.iconst 0, ((0, 0), ([.int 0], []))) := (kT_177 35).trans rfl
theorem r_177_36 : xT.1 177 36 = some (.istore_n 3, ((0, 0), ([], []))) := (kT_177 36).trans rfl
theorem r_177_37 : xT.1 177 37 = some (.iload_n 3, ((0, 0), ([], []))) := (kT_177 37).trans rfl
theorem r_177_38 : xT.1 177 38 = some (.aload_n 0, ((0, 0), ([], []))) := (kT_177 38).trans rfl
theorem r_177_39 : xT.1 177 39 = some (.getfield 7, ((9, 0), ([], []))) := (kT_177 39).trans rfl
theorem r_177_42 : xT.1 177 42 = some (.iconst 1, ((0, 0), ([.int 1], []))) := (kT_177 42).trans rfl
theorem r_177_43 : xT.1 177 43 = some (.iaload, ((0, 0), ([], []))) := (kT_177 43).trans rfl
theorem r_177_44 : xT.1 177 44 = some (.if_icmp .ge 58, ((102, 0), ([], []))) := (kT_177 44).trans rfl
theorem r_177_47 : xT.1 177 47 = some (.aload_n 0, ((0, 0), ([], []))) := (kT_177 47).trans rfl
theorem r_177_48 : xT.1 177 48 = some (.iload_n 3, ((0, 0), ([], []))) := (kT_177 48).trans rfl
theorem r_177_49 : xT.1 177 49 = some (.iload_n 1, ((0, 0), ([], []))) := (kT_177 49).trans rfl
theorem r_177_50 : xT.1 177 50 = some (.invokevirtual 91, ((160, 3), ([], [0]))) := (kT_177 50).trans rfl
theorem r_177_53 : xT.1 177 53 = some (.istore 4, ((0, 0), ([], []))) := (kT_177 53).trans rfl
theorem r_177_55 : xT.1 177 55 = some (.iload 4, ((0, 0), ([], []))) := (kT_177 55).trans rfl
theorem r_177_57 : xT.1 177 57 = some (.iconst (-1), ((0, 0), ([.int (-1)], []))) := (kT_177 57).trans rfl
theorem r_177_58 : xT.1 177 58 = some (.if_icmp .eq 38, ((96, 0), ([], []))) := (kT_177 58).trans rfl
theorem r_177_61 : xT.1 177 61 = some (.aload_n 0, ((0, 0), ([], []))) := (kT_177 61).trans rfl
theorem r_177_62 : xT.1 177 62 = some (.getfield 7, ((9, 0), ([], []))) := (kT_177 62).trans rfl
theorem r_177_65 : xT.1 177 65 = some (.bipush 10, ((0, 0), ([.int 10], []))) := (kT_177 65).trans rfl
theorem r_177_67 : xT.1 177 67 = some (.iload_n 1, ((0, 0), ([], []))) := (kT_177 67).trans rfl
theorem r_177_68 : xT.1 177 68 = some (.iadd, ((0, 0), ([], []))) := (kT_177 68).trans rfl
theorem r_177_69 : xT.1 177 69 = some (.dup2, ((0, 0), ([], []))) := (kT_177 69).trans rfl
theorem r_177_70 : xT.1 177 70 = some (.iaload, ((0, 0), ([], []))) := (kT_177 70).trans rfl
theorem r_177_71 : xT.1 177 71 = some (.aload_n 0, ((0, 0), ([], []))) := (kT_177 71).trans rfl
theorem r_177_72 : xT.1 177 72 = some (.getfield 7, ((9, 0), ([], []))) := (kT_177 72).trans rfl
theorem r_177_75 : xT.1 177 75 = some (.iload_n 3, ((0, 0), ([], []))) := (kT_177 75).trans rfl
theorem r_177_76 : xT.1 177 76 = some (.iload 4, ((0, 0), ([], []))) := (kT_177 76).trans rfl
theorem r_177_78 : xT.1 177 78 = some (.invokestatic 56, ((159, 2), ([], [1]))) := (kT_177 78).trans rfl
theorem r_177_81 : xT.1 177 81 = some (.iconst 4, ((0, 0), ([.int 4], []))) := (kT_177 81).trans rfl
theorem r_177_82 : xT.1 177 82 = some (.iadd, ((0, 0), ([], []))) := (kT_177 82).trans rfl
theorem r_177_83 : xT.1 177 83 = some (.iaload, ((0, 0), ([], []))) := (kT_177 83).trans rfl
theorem r_177_84 : xT.1 177 84 = some (.iadd, ((0, 0), ([], []))) := (kT_177 84).trans rfl
theorem r_177_85 : xT.1 177 85 = some (.iastore, ((0, 0), ([], []))) := (kT_177 85).trans rfl
theorem r_177_86 : xT.1 177 86 = some (.aload_n 0, ((0, 0), ([], []))) := (kT_177 86).trans rfl
theorem r_177_87 : xT.1 177 87 = some (.iload_n 3, ((0, 0), ([], []))) := (kT_177 87).trans rfl
theorem r_177_88 : xT.1 177 88 = some (.iload 4, ((0, 0), ([], []))) := (kT_177 88).trans rfl
theorem r_177_90 : xT.1 177 90 = some (.invokevirtual 118, ((176, 3), ([], [0]))) := (kT_177 90).trans rfl
theorem r_177_93 : xT.1 177 93 = some (.iinc 2 1, ((0, 0), ([.int (1)], []))) := (kT_177 93).trans rfl
theorem r_177_96 : xT.1 177 96 = some (.iinc 3 1, ((0, 0), ([.int (1)], []))) := (kT_177 96).trans rfl
theorem r_177_99 : xT.1 177 99 = some (.goto (-62), ((37, 0), ([], []))) := (kT_177 99).trans rfl
theorem r_177_102 : xT.1 177 102 = some (.aload_n 0, ((0, 0), ([], []))) := (kT_177 102).trans rfl
theorem r_177_103 : xT.1 177 103 = some (.getfield 7, ((9, 0), ([], []))) := (kT_177 103).trans rfl
theorem r_177_106 : xT.1 177 106 = some (.bipush 15, ((0, 0), ([.int 15], []))) := (kT_177 106).trans rfl
theorem r_177_108 : xT.1 177 108 = some (.iload_n 1, ((0, 0), ([], []))) := (kT_177 108).trans rfl
theorem r_177_109 : xT.1 177 109 = some (.iadd, ((0, 0), ([], []))) := (kT_177 109).trans rfl
theorem r_177_110 : xT.1 177 110 = some (.iconst 1, ((0, 0), ([.int 1], []))) := (kT_177 110).trans rfl
theorem r_177_111 : xT.1 177 111 = some (.iastore, ((0, 0), ([], []))) := (kT_177 111).trans rfl
theorem r_177_112 : xT.1 177 112 = some (.aload_n 0, ((0, 0), ([], []))) := (kT_177 112).trans rfl
theorem r_177_113 : xT.1 177 113 = some (.iload_n 2, ((0, 0), ([], []))) := (kT_177 113).trans rfl
theorem r_177_114 : xT.1 177 114 = some (.invokevirtual 64, ((152, 2), ([], [0]))) := (kT_177 114).trans rfl
theorem r_177_117 : xT.1 177 117 = some (.ireturn, ((0, 0), ([], []))) := (kT_177 117).trans rfl
theorem kT_178 (pc : Nat) : xT.1 178 pc = xfind k_178 pc := rfl
theorem r_178_0 : xT.1 178 0 = some (.aload_n 0, ((0, 0), ([], []))) := (kT_178 0).trans rfl
theorem r_178_1 : xT.1 178 1 = some (.invokevirtual 67, ((155, 1), ([], [0]))) := (kT_178 1).trans rfl
theorem r_178_4 : xT.1 178 4 = some (.aload_n 0, ((0, 0), ([], []))) := (kT_178 4).trans rfl
theorem r_178_5 : xT.1 178 5 = some (.aload_n 0, ((0, 0), ([], []))) := (kT_178 5).trans rfl
theorem r_178_6 : xT.1 178 6 = some (.iload_n 1, ((0, 0), ([], []))) := (kT_178 6).trans rfl
theorem r_178_7 : xT.1 178 7 = some (.invokevirtual 121, ((177, 2), ([], [0]))) := (kT_178 7).trans rfl
theorem r_178_10 : xT.1 178 10 = some (.invokevirtual 74, ((156, 2), ([], [0]))) := (kT_178 10).trans rfl
theorem r_178_13 : xT.1 178 13 = some (.ireturn, ((0, 0), ([], []))) := (kT_178 13).trans rfl
theorem kT_179 (pc : Nat) : xT.1 179 pc = xfind k_179 pc := rfl
theorem r_179_0 : xT.1 179 0 = some (.aload_n 0, ((0, 0), ([], []))) := (kT_179 0).trans rfl
theorem r_179_1 : xT.1 179 1 = some (.aload_n 0, ((0, 0), ([], []))) := (kT_179 1).trans rfl
theorem r_179_2 : xT.1 179 2 = some (.getfield 7, ((9, 0), ([], []))) := (kT_179 2).trans rfl
theorem r_179_5 : xT.1 179 5 = some (.iconst 0, ((0, 0), ([.int 0], []))) := (kT_179 5).trans rfl
theorem r_179_6 : xT.1 179 6 = some (.iaload, ((0, 0), ([], []))) := (kT_179 6).trans rfl
theorem r_179_7 : xT.1 179 7 = some (.invokevirtual 64, ((152, 2), ([], [0]))) := (kT_179 7).trans rfl
theorem r_179_10 : xT.1 179 10 = some (.ireturn, ((0, 0), ([], []))) := (kT_179 10).trans rfl
theorem kT_180 (pc : Nat) : xT.1 180 pc = xfind k_180 pc := rfl
theorem r_180_0 : xT.1 180 0 = some (.aload_n 0, ((0, 0), ([], []))) := (kT_180 0).trans rfl
theorem r_180_1 : xT.1 180 1 = some (.iload_n 1, ((0, 0), ([], []))) := (kT_180 1).trans rfl
theorem r_180_2 : xT.1 180 2 = some (.invokevirtual 80, ((157, 2), ([], [0]))) := (kT_180 2).trans rfl
theorem r_180_5 : xT.1 180 5 = some (.ifCond .eq 19, ((24, 0), ([], []))) := (kT_180 5).trans rfl
theorem r_180_8 : xT.1 180 8 = some (.aload_n 0, ((0, 0), ([], []))) := (kT_180 8).trans rfl
theorem r_180_9 : xT.1 180 9 = some (.aload_n 0, ((0, 0), ([], []))) := (kT_180 9).trans rfl
theorem r_180_10 : xT.1 180 10 = some (.getfield 7, ((9, 0), ([], []))) := (kT_180 10).trans rfl
theorem r_180_13 : xT.1 180 13 = some (.bipush 10, ((0, 0), ([.int 10], []))) := (kT_180 13).trans rfl
theorem r_180_15 : xT.1 180 15 = some (.iload_n 1, ((0, 0), ([], []))) := (kT_180 15).trans rfl
theorem r_180_16 : xT.1 180 16 = some (.iadd, ((0, 0), ([], []))) := (kT_180 16).trans rfl
theorem r_180_17 : xT.1 180 17 = some (.iaload, ((0, 0), ([], []))) := (kT_180 17).trans rfl
theorem r_180_18 : xT.1 180 18 = some (.invokevirtual 64, ((152, 2), ([], [0]))) := (kT_180 18).trans rfl
theorem r_180_21 : xT.1 180 21 = some (.goto 8, ((29, 0), ([], []))) := (kT_180 21).trans rfl
theorem r_180_24 : xT.1 180 24 = some (.aload_n 0, ((0, 0), ([], []))) := (kT_180 24).trans rfl
theorem r_180_25 : xT.1 180 25 = some (.iconst 1, ((0, 0), ([.int 1], []))) := (kT_180 25).trans rfl
theorem r_180_26 : xT.1 180 26 = some (.invokevirtual 60, ((153, 2), ([], [0]))) := (kT_180 26).trans rfl
theorem r_180_29 : xT.1 180 29 = some (.ireturn, ((0, 0), ([], []))) := (kT_180 29).trans rfl
theorem kT_181 (pc : Nat) : xT.1 181 pc = xfind k_181 pc := rfl
theorem r_181_0 : xT.1 181 0 = some (.aload_n 0, ((0, 0), ([], []))) := (kT_181 0).trans rfl
theorem r_181_1 : xT.1 181 1 = some (.aload_n 0, ((0, 0), ([], []))) := (kT_181 1).trans rfl
theorem r_181_2 : xT.1 181 2 = some (.iload_n 1, ((0, 0), ([], []))) := (kT_181 2).trans rfl
theorem r_181_3 : xT.1 181 3 = some (.invokevirtual 80, ((157, 2), ([], [0]))) := (kT_181 3).trans rfl
theorem r_181_6 : xT.1 181 6 = some (.ifCond .eq 7, ((13, 0), ([], []))) := (kT_181 6).trans rfl
theorem r_181_9 : xT.1 181 9 = some (.iconst 0, ((0, 0), ([.int 0], []))) := (kT_181 9).trans rfl
theorem r_181_10 : xT.1 181 10 = some (.goto 4, ((14, 0), ([], []))) := (kT_181 10).trans rfl
theorem r_181_13 : xT.1 181 13 = some (.iconst 1, ((0, 0), ([.int 1], []))) := (kT_181 13).trans rfl
theorem r_181_14 : xT.1 181 14 = some (.putfield 42, ((9, 12), ([], [0]))) := (kT_181 14).trans rfl
theorem r_181_17 : xT.1 181 17 = some (.aload_n 0, ((0, 0), ([], []))) := (kT_181 17).trans rfl
theorem r_181_18 : xT.1 181 18 = some (.getfield 42, ((9, 12), ([], []))) := (kT_181 18).trans rfl
theorem r_181_21 : xT.1 181 21 = some (.ifCond .ne 20, ((41, 0), ([], []))) := (kT_181 21).trans rfl
theorem r_181_24 : xT.1 181 24 = some (.aload_n 0, ((0, 0), ([], []))) := (kT_181 24).trans rfl
theorem r_181_25 : xT.1 181 25 = some (.getfield 7, ((9, 0), ([], []))) := (kT_181 25).trans rfl
theorem r_181_28 : xT.1 181 28 = some (.bipush 15, ((0, 0), ([.int 15], []))) := (kT_181 28).trans rfl
theorem r_181_30 : xT.1 181 30 = some (.iload_n 1, ((0, 0), ([], []))) := (kT_181 30).trans rfl
theorem r_181_31 : xT.1 181 31 = some (.iadd, ((0, 0), ([], []))) := (kT_181 31).trans rfl
theorem r_181_32 : xT.1 181 32 = some (.iaload, ((0, 0), ([], []))) := (kT_181 32).trans rfl
theorem r_181_33 : xT.1 181 33 = some (.iconst 1, ((0, 0), ([.int 1], []))) := (kT_181 33).trans rfl
theorem r_181_34 : xT.1 181 34 = some (.if_icmp .ne 7, ((41, 0), ([], []))) := (kT_181 34).trans rfl
theorem r_181_37 : xT.1 181 37 = some (.iconst 1, ((0, 0), ([.int 1], []))) := (kT_181 37).trans rfl
theorem r_181_38 : xT.1 181 38 = some (.goto 4, ((42, 0), ([], []))) := (kT_181 38).trans rfl
theorem r_181_41 : xT.1 181 41 = some (.iconst 0, ((0, 0), ([.int 0], []))) := (kT_181 41).trans rfl
theorem r_181_42 : xT.1 181 42 = some (.ireturn, ((0, 0), ([], []))) := (kT_181 42).trans rfl
theorem kT_182 (pc : Nat) : xT.1 182 pc = xfind k_182 pc := rfl
theorem r_182_0 : xT.1 182 0 = some (.aload_n 0, ((0, 0), ([], []))) := (kT_182 0).trans rfl
theorem r_182_1 : xT.1 182 1 = some (.aload_n 0, ((0, 0), ([], []))) := (kT_182 1).trans rfl
theorem r_182_2 : xT.1 182 2 = some (.getfield 7, ((9, 0), ([], []))) := (kT_182 2).trans rfl
theorem r_182_5 : xT.1 182 5 = some (.iconst 3, ((0, 0), ([.int 3], []))) := (kT_182 5).trans rfl
theorem r_182_6 : xT.1 182 6 = some (.iaload, ((0, 0), ([], []))) := (kT_182 6).trans rfl
theorem r_182_7 : xT.1 182 7 = some (.invokevirtual 64, ((152, 2), ([], [0]))) := (kT_182 7).trans rfl
theorem r_182_10 : xT.1 182 10 = some (.ireturn, ((0, 0), ([], []))) := (kT_182 10).trans rfl
theorem kT_183 (pc : Nat) : xT.1 183 pc = xfind k_183 pc := rfl
theorem r_183_0 : xT.1 183 0 = some (.iconst 0, ((0, 0), ([.int 0], []))) := (kT_183 0).trans rfl
theorem r_183_1 : xT.1 183 1 = some (.istore_n 1, ((0, 0), ([], []))) := (kT_183 1).trans rfl
theorem r_183_2 : xT.1 183 2 = some (.iconst 0, ((0, 0), ([.int 0], []))) := (kT_183 2).trans rfl
theorem r_183_3 : xT.1 183 3 = some (.istore_n 2, ((0, 0), ([], []))) := (kT_183 3).trans rfl
theorem r_183_4 : xT.1 183 4 = some (.iload_n 2, ((0, 0), ([], []))) := (kT_183 4).trans rfl
theorem r_183_5 : xT.1 183 5 = some (.aload_n 0, ((0, 0), ([], []))) := (kT_183 5).trans rfl
theorem r_183_6 : xT.1 183 6 = some (.getfield 7, ((9, 0), ([], []))) := (kT_183 6).trans rfl
theorem r_183_9 : xT.1 183 9 = some (.iconst 1, ((0, 0), ([.int 1], []))) := (kT_183 9).trans rfl
theorem r_183_10 : xT.1 183 10 = some (.iaload, ((0, 0), ([], []))) := (kT_183 10).trans rfl
theorem r_183_11 : xT.1 183 11 = some (.if_icmp .ge 46, ((57, 0), ([], []))) := (kT_183 11).trans rfl
theorem r_183_14 : xT.1 183 14 = some (.iconst 0, ((0, 0), ([.int 0], []))) := (kT_183 14).trans rfl
theorem r_183_15 : xT.1 183 15 = some (.istore_n 3, ((0, 0), ([], []))) := (kT_183 15).trans rfl
theorem r_183_16 : xT.1 183 16 = some (.iload_n 3, ((0, 0), ([], []))) := (kT_183 16).trans rfl
theorem r_183_17 : xT.1 183 17 = some (.aload_n 0, ((0, 0), ([], []))) := (kT_183 17).trans rfl
theorem r_183_18 : xT.1 183 18 = some (.getfield 7, ((9, 0), ([], []))) := (kT_183 18).trans rfl
theorem r_183_21 : xT.1 183 21 = some (.sipush 132, ((0, 0), ([.int 132], []))) := (kT_183 21).trans rfl
theorem r_183_24 : xT.1 183 24 = some (.iload_n 2, ((0, 0), ([], []))) := (kT_183 24).trans rfl
theorem r_183_25 : xT.1 183 25 = some (.iadd, ((0, 0), ([], []))) := (kT_183 25).trans rfl
theorem r_183_26 : xT.1 183 26 = some (.iaload, ((0, 0), ([], []))) := (kT_183 26).trans rfl
theorem r_183_27 : xT.1 183 27 = some (.if_icmp .ge 24, ((51, 0), ([], []))) := (kT_183 27).trans rfl
theorem r_183_30 : xT.1 183 30 = some (.iload_n 1, ((0, 0), ([], []))) := (kT_183 30).trans rfl
theorem r_183_31 : xT.1 183 31 = some (.aload_n 0, ((0, 0), ([], []))) := (kT_183 31).trans rfl
theorem r_183_32 : xT.1 183 32 = some (.getfield 7, ((9, 0), ([], []))) := (kT_183 32).trans rfl
theorem r_183_35 : xT.1 183 35 = some (.iload_n 2, ((0, 0), ([], []))) := (kT_183 35).trans rfl
theorem r_183_36 : xT.1 183 36 = some (.iload_n 3, ((0, 0), ([], []))) := (kT_183 36).trans rfl
theorem r_183_37 : xT.1 183 37 = some (.invokestatic 56, ((159, 2), ([], [1]))) := (kT_183 37).trans rfl
theorem r_183_40 : xT.1 183 40 = some (.iconst 4, ((0, 0), ([.int 4], []))) := (kT_183 40).trans rfl
theorem r_183_41 : xT.1 183 41 = some (.iadd, ((0, 0), ([], []))) := (kT_183 41).trans rfl
theorem r_183_42 : xT.1 183 42 = some (.iaload, ((0, 0), ([], []))) := (kT_183 42).trans rfl
theorem r_183_43 : xT.1 183 43 = some (.iadd, ((0, 0), ([], []))) := (kT_183 43).trans rfl
theorem r_183_44 : xT.1 183 44 = some (.istore_n 1, ((0, 0), ([], []))) := (kT_183 44).trans rfl
theorem r_183_45 : xT.1 183 45 = some (.iinc 3 1, ((0, 0), ([.int (1)], []))) := (kT_183 45).trans rfl
theorem r_183_48 : xT.1 183 48 = some (.goto (-32), ((16, 0), ([], []))) := (kT_183 48).trans rfl
theorem r_183_51 : xT.1 183 51 = some (.iinc 2 1, ((0, 0), ([.int (1)], []))) := (kT_183 51).trans rfl
theorem r_183_54 : xT.1 183 54 = some (.goto (-50), ((4, 0), ([], []))) := (kT_183 54).trans rfl
theorem r_183_57 : xT.1 183 57 = some (.aload_n 0, ((0, 0), ([], []))) := (kT_183 57).trans rfl
theorem r_183_58 : xT.1 183 58 = some (.iload_n 1, ((0, 0), ([], []))) := (kT_183 58).trans rfl
theorem r_183_59 : xT.1 183 59 = some (.invokevirtual 64, ((152, 2), ([], [0]))) := (kT_183 59).trans rfl
theorem r_183_62 : xT.1 183 62 = some (.ireturn, ((0, 0), ([], []))) := (kT_183 62).trans rfl
theorem kT_184 (pc : Nat) : xT.1 184 pc = xfind k_184 pc := rfl
theorem r_184_0 : xT.1 184 0 = some (.aload_n 0, ((0, 0), ([], []))) := (kT_184 0).trans rfl
theorem r_184_1 : xT.1 184 1 = some (.aload_n 0, ((0, 0), ([], []))) := (kT_184 1).trans rfl
theorem r_184_2 : xT.1 184 2 = some (.getfield 7, ((9, 0), ([], []))) := (kT_184 2).trans rfl
theorem r_184_5 : xT.1 184 5 = some (.iconst 1, ((0, 0), ([.int 1], []))) := (kT_184 5).trans rfl
theorem r_184_6 : xT.1 184 6 = some (.iaload, ((0, 0), ([], []))) := (kT_184 6).trans rfl
theorem r_184_7 : xT.1 184 7 = some (.invokevirtual 64, ((152, 2), ([], [0]))) := (kT_184 7).trans rfl
theorem r_184_10 : xT.1 184 10 = some (.ireturn, ((0, 0), ([], []))) := (kT_184 10).trans rfl
theorem kT_185 (pc : Nat) : xT.1 185 pc = xfind k_185 pc := rfl
theorem r_185_0 : xT.1 185 0 = some (.iload_n 1, ((0, 0), ([], []))) := (kT_185 0).trans rfl
theorem r_185_1 : xT.1 185 1 = some (.iconst 0, ((0, 0), ([.int 0], []))) := (kT_185 1).trans rfl
theorem r_185_2 : xT.1 185 2 = some (.aload_n 0, ((0, 0), ([], []))) := (kT_185 2).trans rfl
theorem r_185_3 : xT.1 185 3 = some (.getfield 7, ((9, 0), ([], []))) := (kT_185 3).trans rfl
theorem r_185_6 : xT.1 185 6 = some (.iconst 1, ((0, 0), ([.int 1], []))) := (kT_185 6).trans rfl
theorem r_185_7 : xT.1 185 7 = some (.iaload, ((0, 0), ([], []))) := (kT_185 7).trans rfl
theorem r_185_8 : xT.1 185 8 = some (.iconst 1, ((0, 0), ([.int 1], []))) := (kT_185 8).trans rfl
theorem r_185_9 : xT.1 185 9 = some (.isub, ((0, 0), ([], []))) := (kT_185 9).trans rfl
theorem r_185_10 : xT.1 185 10 = some (.invokestatic 52, ((150, 3), ([], [1]))) := (kT_185 10).trans rfl
theorem r_185_13 : xT.1 185 13 = some (.ifCond .eq 19, ((32, 0), ([], []))) := (kT_185 13).trans rfl
theorem r_185_16 : xT.1 185 16 = some (.aload_n 0, ((0, 0), ([], []))) := (kT_185 16).trans rfl
theorem r_185_17 : xT.1 185 17 = some (.aload_n 0, ((0, 0), ([], []))) := (kT_185 17).trans rfl
theorem r_185_18 : xT.1 185 18 = some (.getfield 7, ((9, 0), ([], []))) := (kT_185 18).trans rfl
theorem r_185_21 : xT.1 185 21 = some (.bipush 120, ((0, 0), ([.int 120], []))) := (kT_185 21).trans rfl
theorem r_185_23 : xT.1 185 23 = some (.iload_n 1, ((0, 0), ([], []))) := (kT_185 23).trans rfl
theorem r_185_24 : xT.1 185 24 = some (.iadd, ((0, 0), ([], []))) := (kT_185 24).trans rfl
theorem r_185_25 : xT.1 185 25 = some (.iaload, ((0, 0), ([], []))) := (kT_185 25).trans rfl
theorem r_185_26 : xT.1 185 26 = some (.invokevirtual 64, ((152, 2), ([], [0]))) := (kT_185 26).trans rfl
theorem r_185_29 : xT.1 185 29 = some (.goto 8, ((37, 0), ([], []))) := (kT_185 29).trans rfl
theorem r_185_32 : xT.1 185 32 = some (.aload_n 0, ((0, 0), ([], []))) := (kT_185 32).trans rfl
theorem r_185_33 : xT.1 185 33 = some (.iconst 1, ((0, 0), ([.int 1], []))) := (kT_185 33).trans rfl
theorem r_185_34 : xT.1 185 34 = some (.invokevirtual 60, ((153, 2), ([], [0]))) := (kT_185 34).trans rfl
theorem r_185_37 : xT.1 185 37 = some (.ireturn, ((0, 0), ([], []))) := (kT_185 37).trans rfl
theorem kT_186 (pc : Nat) : xT.1 186 pc = xfind k_186 pc := rfl
theorem r_186_0 : xT.1 186 0 = some (.aload_n 0, ((0, 0), ([], []))) := (kT_186 0).trans rfl
theorem r_186_1 : xT.1 186 1 = some (.iload_n 1, ((0, 0), ([], []))) := (kT_186 1).trans rfl
theorem r_186_2 : xT.1 186 2 = some (.invokevirtual 84, ((158, 2), ([], [0]))) := (kT_186 2).trans rfl
theorem r_186_5 : xT.1 186 5 = some (.istore_n 2, ((0, 0), ([], []))) := (kT_186 5).trans rfl
theorem r_186_6 : xT.1 186 6 = some (.iload_n 2, ((0, 0), ([], []))) := (kT_186 6).trans rfl
theorem r_186_7 : xT.1 186 7 = some (.iconst (-1), ((0, 0), ([.int (-1)], []))) := (kT_186 7).trans rfl
theorem r_186_8 : xT.1 186 8 = some (.if_icmp .ne 11, ((19, 0), ([], []))) := (kT_186 8).trans rfl
theorem r_186_11 : xT.1 186 11 = some (.aload_n 0, ((0, 0), ([], []))) := (kT_186 11).trans rfl
theorem r_186_12 : xT.1 186 12 = some (.iconst 1, ((0, 0), ([.int 1], []))) := (kT_186 12).trans rfl
theorem r_186_13 : xT.1 186 13 = some (.invokevirtual 60, ((153, 2), ([], [0]))) := (kT_186 13).trans rfl
theorem r_186_16 : xT.1 186 16 = some (.goto 8, ((24, 0), ([], []))) := (kT_186 16).trans rfl
theorem r_186_19 : xT.1 186 19 = some (.aload_n 0, ((0, 0), ([], []))) := (kT_186 19).trans rfl
theorem r_186_20 : xT.1 186 20 = some (.iload_n 2, ((0, 0), ([], []))) := (kT_186 20).trans rfl
theorem r_186_21 : xT.1 186 21 = some (.invokevirtual 64, ((152, 2), ([], [0]))) := (kT_186 21).trans rfl
theorem r_186_24 : xT.1 186 24 = some (.ireturn, ((0, 0), ([], []))) := (kT_186 24).trans rfl
theorem kT_187 (pc : Nat) : xT.1 187 pc = xfind k_187 pc := rfl
theorem r_187_0 : xT.1 187 0 = some (.aload_n 0, ((0, 0), ([], []))) := (kT_187 0).trans rfl
theorem r_187_1 : xT.1 187 1 = some (.iload_n 1, ((0, 0), ([], []))) := (kT_187 1).trans rfl
theorem r_187_2 : xT.1 187 2 = some (.invokevirtual 84, ((158, 2), ([], [0]))) := (kT_187 2).trans rfl
theorem r_187_5 : xT.1 187 5 = some (.istore_n 2, ((0, 0), ([], []))) := (kT_187 5).trans rfl
theorem r_187_6 : xT.1 187 6 = some (.iload_n 2, ((0, 0), ([], []))) := (kT_187 6).trans rfl
theorem r_187_7 : xT.1 187 7 = some (.iconst (-1), ((0, 0), ([.int (-1)], []))) := (kT_187 7).trans rfl
theorem r_187_8 : xT.1 187 8 = some (.if_icmp .ne 11, ((19, 0), ([], []))) := (kT_187 8).trans rfl
theorem r_187_11 : xT.1 187 11 = some (.aload_n 0, ((0, 0), ([], []))) := (kT_187 11).trans rfl
theorem r_187_12 : xT.1 187 12 = some (.iconst 1, ((0, 0), ([.int 1], []))) := (kT_187 12).trans rfl
theorem r_187_13 : xT.1 187 13 = some (.invokevirtual 60, ((153, 2), ([], [0]))) := (kT_187 13).trans rfl
theorem r_187_16 : xT.1 187 16 = some (.goto 16, ((32, 0), ([], []))) := (kT_187 16).trans rfl
theorem r_187_19 : xT.1 187 19 = some (.aload_n 0, ((0, 0), ([], []))) := (kT_187 19).trans rfl
theorem r_187_20 : xT.1 187 20 = some (.aload_n 0, ((0, 0), ([], []))) := (kT_187 20).trans rfl
theorem r_187_21 : xT.1 187 21 = some (.getfield 7, ((9, 0), ([], []))) := (kT_187 21).trans rfl
theorem r_187_24 : xT.1 187 24 = some (.bipush 126, ((0, 0), ([.int 126], []))) := (kT_187 24).trans rfl
theorem r_187_26 : xT.1 187 26 = some (.iload_n 2, ((0, 0), ([], []))) := (kT_187 26).trans rfl
theorem r_187_27 : xT.1 187 27 = some (.iadd, ((0, 0), ([], []))) := (kT_187 27).trans rfl
theorem r_187_28 : xT.1 187 28 = some (.iaload, ((0, 0), ([], []))) := (kT_187 28).trans rfl
theorem r_187_29 : xT.1 187 29 = some (.invokevirtual 64, ((152, 2), ([], [0]))) := (kT_187 29).trans rfl
theorem r_187_32 : xT.1 187 32 = some (.ireturn, ((0, 0), ([], []))) := (kT_187 32).trans rfl
theorem kT_188 (pc : Nat) : xT.1 188 pc = xfind k_188 pc := rfl
theorem r_188_0 : xT.1 188 0 = some (.aload_n 0, ((0, 0), ([], []))) := (kT_188 0).trans rfl
theorem r_188_1 : xT.1 188 1 = some (.iload_n 1, ((0, 0), ([], []))) := (kT_188 1).trans rfl
theorem r_188_2 : xT.1 188 2 = some (.invokevirtual 84, ((158, 2), ([], [0]))) := (kT_188 2).trans rfl
theorem r_188_5 : xT.1 188 5 = some (.istore_n 2, ((0, 0), ([], []))) := (kT_188 5).trans rfl
theorem r_188_6 : xT.1 188 6 = some (.iload_n 2, ((0, 0), ([], []))) := (kT_188 6).trans rfl
theorem r_188_7 : xT.1 188 7 = some (.iconst (-1), ((0, 0), ([.int (-1)], []))) := (kT_188 7).trans rfl
theorem r_188_8 : xT.1 188 8 = some (.if_icmp .ne 11, ((19, 0), ([], []))) := (kT_188 8).trans rfl
theorem r_188_11 : xT.1 188 11 = some (.aload_n 0, ((0, 0), ([], []))) := (kT_188 11).trans rfl
theorem r_188_12 : xT.1 188 12 = some (.iconst 1, ((0, 0), ([.int 1], []))) := (kT_188 12).trans rfl
theorem r_188_13 : xT.1 188 13 = some (.invokevirtual 60, ((153, 2), ([], [0]))) := (kT_188 13).trans rfl
theorem r_188_16 : xT.1 188 16 = some (.goto 17, ((33, 0), ([], []))) := (kT_188 16).trans rfl
theorem r_188_19 : xT.1 188 19 = some (.aload_n 0, ((0, 0), ([], []))) := (kT_188 19).trans rfl
theorem r_188_20 : xT.1 188 20 = some (.aload_n 0, ((0, 0), ([], []))) := (kT_188 20).trans rfl
theorem r_188_21 : xT.1 188 21 = some (.getfield 7, ((9, 0), ([], []))) := (kT_188 21).trans rfl
theorem r_188_24 : xT.1 188 24 = some (.sipush 132, ((0, 0), ([.int 132], []))) := (kT_188 24).trans rfl
theorem r_188_27 : xT.1 188 27 = some (.iload_n 2, ((0, 0), ([], []))) := (kT_188 27).trans rfl
theorem r_188_28 : xT.1 188 28 = some (.iadd, ((0, 0), ([], []))) := (kT_188 28).trans rfl
theorem r_188_29 : xT.1 188 29 = some (.iaload, ((0, 0), ([], []))) := (kT_188 29).trans rfl
theorem r_188_30 : xT.1 188 30 = some (.invokevirtual 64, ((152, 2), ([], [0]))) := (kT_188 30).trans rfl
theorem r_188_33 : xT.1 188 33 = some (.ireturn, ((0, 0), ([], []))) := (kT_188 33).trans rfl
theorem kT_189 (pc : Nat) : xT.1 189 pc = xfind k_189 pc := rfl
theorem r_189_0 : xT.1 189 0 = some (.aload_n 0, ((0, 0), ([], []))) := (kT_189 0).trans rfl
theorem r_189_1 : xT.1 189 1 = some (.iload_n 1, ((0, 0), ([], []))) := (kT_189 1).trans rfl
theorem r_189_2 : xT.1 189 2 = some (.invokevirtual 84, ((158, 2), ([], [0]))) := (kT_189 2).trans rfl
theorem r_189_5 : xT.1 189 5 = some (.istore_n 3, ((0, 0), ([], []))) := (kT_189 5).trans rfl
theorem r_189_6 : xT.1 189 6 = some (.iload_n 3, ((0, 0), ([], []))) := (kT_189 6).trans rfl
theorem r_189_7 : xT.1 189 7 = some (.iconst (-1), ((0, 0), ([.int (-1)], []))) := (kT_189 7).trans rfl
theorem r_189_8 : xT.1 189 8 = some (.if_icmp .ne 9, ((17, 0), ([], []))) := (kT_189 8).trans rfl
theorem r_189_11 : xT.1 189 11 = some (.aload_n 0, ((0, 0), ([], []))) := (kT_189 11).trans rfl
theorem r_189_12 : xT.1 189 12 = some (.iconst 1, ((0, 0), ([.int 1], []))) := (kT_189 12).trans rfl
theorem r_189_13 : xT.1 189 13 = some (.invokevirtual 60, ((153, 2), ([], [0]))) := (kT_189 13).trans rfl
theorem r_189_16 : xT.1 189 16 = some (.ireturn, ((0, 0), ([], []))) := (kT_189 16).trans rfl
theorem r_189_17 : xT.1 189 17 = some (.iload_n 2, ((0, 0), ([], []))) := (kT_189 17).trans rfl
theorem r_189_18 : xT.1 189 18 = some (.iconst 0, ((0, 0), ([.int 0], []))) := (kT_189 18).trans rfl
theorem r_189_19 : xT.1 189 19 = some (.aload_n 0, ((0, 0), ([], []))) := (kT_189 19).trans rfl
theorem r_189_20 : xT.1 189 20 = some (.getfield 7, ((9, 0), ([], []))) := (kT_189 20).trans rfl
theorem r_189_23 : xT.1 189 23 = some (.sipush 132, ((0, 0), ([.int 132], []))) := (kT_189 23).trans rfl
theorem r_189_26 : xT.1 189 26 = some (.iload_n 3, ((0, 0), ([], []))) := (kT_189 26).trans rfl
theorem r_189_27 : xT.1 189 27 = some (.iadd, ((0, 0), ([], []))) := (kT_189 27).trans rfl
theorem r_189_28 : xT.1 189 28 = some (.iaload, ((0, 0), ([], []))) := (kT_189 28).trans rfl
theorem r_189_29 : xT.1 189 29 = some (.iconst 1, ((0, 0), ([.int 1], []))) := (kT_189 29).trans rfl
theorem r_189_30 : xT.1 189 30 = some (.isub, ((0, 0), ([], []))) := (kT_189 30).trans rfl
theorem r_189_31 : xT.1 189 31 = some (.invokestatic 52, ((150, 3), ([], [1]))) := (kT_189 31).trans rfl
theorem r_189_34 : xT.1 189 34 = some (.ifCond .eq 22, ((56, 0), ([], []))) := (kT_189 34).trans rfl
theorem r_189_37 : xT.1 189 37 = some (.aload_n 0, ((0, 0), ([], []))) := (kT_189 37).trans rfl
theorem r_189_38 : xT.1 189 38 = some (.aload_n 0, ((0, 0), ([], []))) := (kT_189 38).trans rfl
theorem r_189_39 : xT.1 189 39 = some (.getfield 7, ((9, 0), ([], []))) := (kT_189 39).trans rfl
theorem r_189_42 : xT.1 189 42 = some (.iload_n 3, ((0, 0), ([], []))) := (kT_189 42).trans rfl
theorem r_189_43 : xT.1 189 43 = some (.iload_n 2, ((0, 0), ([], []))) := (kT_189 43).trans rfl
theorem r_189_44 : xT.1 189 44 = some (.invokestatic 56, ((159, 2), ([], [1]))) := (kT_189 44).trans rfl
theorem r_189_47 : xT.1 189 47 = some (.iconst 0, ((0, 0), ([.int 0], []))) := (kT_189 47).trans rfl
theorem r_189_48 : xT.1 189 48 = some (.iadd, ((0, 0), ([], []))) := (kT_189 48).trans rfl
theorem r_189_49 : xT.1 189 49 = some (.iaload, ((0, 0), ([], []))) := (kT_189 49).trans rfl
theorem r_189_50 : xT.1 189 50 = some (.invokevirtual 64, ((152, 2), ([], [0]))) := (kT_189 50).trans rfl
theorem r_189_53 : xT.1 189 53 = some (.goto 8, ((61, 0), ([], []))) := (kT_189 53).trans rfl
theorem r_189_56 : xT.1 189 56 = some (.aload_n 0, ((0, 0), ([], []))) := (kT_189 56).trans rfl
theorem r_189_57 : xT.1 189 57 = some (.iconst 2, ((0, 0), ([.int 2], []))) := (kT_189 57).trans rfl
theorem r_189_58 : xT.1 189 58 = some (.invokevirtual 60, ((153, 2), ([], [0]))) := (kT_189 58).trans rfl
theorem r_189_61 : xT.1 189 61 = some (.ireturn, ((0, 0), ([], []))) := (kT_189 61).trans rfl
theorem kT_190 (pc : Nat) : xT.1 190 pc = xfind k_190 pc := rfl
theorem r_190_0 : xT.1 190 0 = some (.aload_n 0, ((0, 0), ([], []))) := (kT_190 0).trans rfl
theorem r_190_1 : xT.1 190 1 = some (.iload_n 2, ((0, 0), ([], []))) := (kT_190 1).trans rfl
theorem r_190_2 : xT.1 190 2 = some (.invokevirtual 84, ((158, 2), ([], [0]))) := (kT_190 2).trans rfl
theorem r_190_5 : xT.1 190 5 = some (.istore_n 3, ((0, 0), ([], []))) := (kT_190 5).trans rfl
theorem r_190_6 : xT.1 190 6 = some (.aload_n 0, ((0, 0), ([], []))) := (kT_190 6).trans rfl
theorem r_190_7 : xT.1 190 7 = some (.aload_n 0, ((0, 0), ([], []))) := (kT_190 7).trans rfl
theorem r_190_8 : xT.1 190 8 = some (.iload_n 1, ((0, 0), ([], []))) := (kT_190 8).trans rfl
theorem r_190_9 : xT.1 190 9 = some (.invokevirtual 80, ((157, 2), ([], [0]))) := (kT_190 9).trans rfl
theorem r_190_12 : xT.1 190 12 = some (.ifCond .ne 7, ((19, 0), ([], []))) := (kT_190 12).trans rfl
theorem r_190_15 : xT.1 190 15 = some (.iconst 1, ((0, 0), ([.int 1], []))) := (kT_190 15).trans rfl
theorem r_190_16 : xT.1 190 16 = some (.goto 13, ((29, 0), ([], []))) := (kT_190 16).trans rfl
theorem r_190_19 : xT.1 190 19 = some (.iload_n 3, ((0, 0), ([], []))) := (kT_190 19).trans rfl
theorem r_190_20 : xT.1 190 20 = some (.iconst (-1), ((0, 0), ([.int (-1)], []))) := (kT_190 20).trans rfl
theorem r_190_21 : xT.1 190 21 = some (.if_icmp .ne 7, ((28, 0), ([], []))) := (kT_190 21).trans rfl
theorem r_190_24 : xT.1 190 24 = some (.iconst 2, ((0, 0), ([.int 2], []))) := (kT_190 24).trans rfl
theorem r_190_25 : xT.1 190 25 = some (.goto 4, ((29, 0), ([], []))) := (kT_190 25).trans rfl
theorem r_190_28 : xT.1 190 28 = some (.iconst 0, ((0, 0), ([.int 0], []))) := (kT_190 28).trans rfl
theorem r_190_29 : xT.1 190 29 = some (.putfield 42, ((9, 12), ([], [0]))) := (kT_190 29).trans rfl
theorem r_190_32 : xT.1 190 32 = some (.aload_n 0, ((0, 0), ([], []))) := (kT_190 32).trans rfl
theorem r_190_33 : xT.1 190 33 = some (.getfield 42, ((9, 12), ([], []))) := (kT_190 33).trans rfl
theorem r_190_36 : xT.1 190 36 = some (.ifCond .ne 17, ((53, 0), ([], []))) := (kT_190 36).trans rfl
theorem r_190_39 : xT.1 190 39 = some (.aload_n 0, ((0, 0), ([], []))) := (kT_190 39).trans rfl
theorem r_190_40 : xT.1 190 40 = some (.iload_n 3, ((0, 0), ([], []))) := (kT_190 40).trans rfl
theorem r_190_41 : xT.1 190 41 = some (.iload_n 1, ((0, 0), ([], []))) := (kT_190 41).trans rfl
theorem r_190_42 : xT.1 190 42 = some (.invokevirtual 91, ((160, 3), ([], [0]))) := (kT_190 42).trans rfl
theorem r_190_45 : xT.1 190 45 = some (.iconst (-1), ((0, 0), ([.int (-1)], []))) := (kT_190 45).trans rfl
theorem r_190_46 : xT.1 190 46 = some (.if_icmp .eq 7, ((53, 0), ([], []))) := (kT_190 46).trans rfl
theorem r_190_49 : xT.1 190 49 = some (.iconst 1, ((0, 0), ([.int 1], []))) := (kT_190 49).trans rfl
theorem r_190_50 : xT.1 190 50 = some (.goto 4, ((54, 0), ([], []))) := (kT_190 50).trans rfl
theorem r_190_53 : xT.1 190 53 = some (.iconst 0, ((0, 0), ([.int 0], []))) := (kT_190 53).trans rfl
theorem r_190_54 : xT.1 190 54 = some (.ireturn, ((0, 0), ([], []))) := (kT_190 54).trans rfl
theorem kT_191 (pc : Nat) : xT.1 191 pc = xfind k_191 pc := rfl
theorem r_191_0 : xT.1 191 0 = some (.aload_n 0, ((0, 0), ([], []))) := (kT_191 0).trans rfl
theorem r_191_1 : xT.1 191 1 = some (.iload_n 2, ((0, 0), ([], []))) := (kT_191 1).trans rfl
theorem r_191_2 : xT.1 191 2 = some (.invokevirtual 84, ((158, 2), ([], [0]))) := (kT_191 2).trans rfl
theorem r_191_5 : xT.1 191 5 = some (.istore_n 3, ((0, 0), ([], []))) := (kT_191 5).trans rfl
theorem r_191_6 : xT.1 191 6 = some (.iload_n 3, ((0, 0), ([], []))) := (kT_191 6).trans rfl
theorem r_191_7 : xT.1 191 7 = some (.iconst (-1), ((0, 0), ([.int (-1)], []))) := (kT_191 7).trans rfl
theorem r_191_8 : xT.1 191 8 = some (.if_icmp .ne 7, ((15, 0), ([], []))) := (kT_191 8).trans rfl
theorem r_191_11 : xT.1 191 11 = some (.iconst (-1), ((0, 0), ([.int (-1)], []))) := (kT_191 11).trans rfl
theorem r_191_12 : xT.1 191 12 = some (.goto 9, ((21, 0), ([], []))) := (kT_191 12).trans rfl
theorem r_191_15 : xT.1 191 15 = some (.aload_n 0, ((0, 0), ([], []))) := (kT_191 15).trans rfl
theorem r_191_16 : xT.1 191 16 = some (.iload_n 3, ((0, 0), ([], []))) := (kT_191 16).trans rfl
theorem r_191_17 : xT.1 191 17 = some (.iload_n 1, ((0, 0), ([], []))) := (kT_191 17).trans rfl
theorem r_191_18 : xT.1 191 18 = some (.invokevirtual 91, ((160, 3), ([], [0]))) := (kT_191 18).trans rfl
theorem r_191_21 : xT.1 191 21 = some (.istore 4, ((0, 0), ([], []))) := (kT_191 21).trans rfl
theorem r_191_23 : xT.1 191 23 = some (.aload_n 0, ((0, 0), ([], []))) := (kT_191 23).trans rfl
theorem r_191_24 : xT.1 191 24 = some (.aload_n 0, ((0, 0), ([], []))) := (kT_191 24).trans rfl
theorem r_191_25 : xT.1 191 25 = some (.iload_n 1, ((0, 0), ([], []))) := (kT_191 25).trans rfl
theorem r_191_26 : xT.1 191 26 = some (.invokevirtual 80, ((157, 2), ([], [0]))) := (kT_191 26).trans rfl
theorem r_191_29 : xT.1 191 29 = some (.ifCond .ne 7, ((36, 0), ([], []))) := (kT_191 29).trans rfl
theorem r_191_32 : xT.1 191 32 = some (.iconst 1, ((0, 0), ([.int 1], []))) := (kT_191 32).trans rfl
theorem r_191_33 : xT.1 191 33 = some (.goto 14, ((47, 0), ([], []))) := (kT_191 33).trans rfl
theorem r_191_36 : xT.1 191 36 = some (.iload 4, ((0, 0), ([], []))) := (kT_191 36).trans rfl
theorem r_191_38 : xT.1 191 38 = some (.iconst (-1), ((0, 0), ([.int (-1)], []))) := (kT_191 38).trans rfl
theorem r_191_39 : xT.1 191 39 = some (.if_icmp .ne 7, ((46, 0), ([], []))) := (kT_191 39).trans rfl
theorem r_191_42 : xT.1 191 42 = some (.iconst 2, ((0, 0), ([.int 2], []))) := (kT_191 42).trans rfl
theorem r_191_43 : xT.1 191 43 = some (.goto 4, ((47, 0), ([], []))) := (kT_191 43).trans rfl
theorem r_191_46 : xT.1 191 46 = some (.iconst 0, ((0, 0), ([.int 0], []))) := (kT_191 46).trans rfl
theorem r_191_47 : xT.1 191 47 = some (.putfield 42, ((9, 12), ([], [0]))) := (kT_191 47).trans rfl
theorem r_191_50 : xT.1 191 50 = some (.aload_n 0, ((0, 0), ([], []))) := (kT_191 50).trans rfl
theorem r_191_51 : xT.1 191 51 = some (.getfield 42, ((9, 12), ([], []))) := (kT_191 51).trans rfl
theorem r_191_54 : xT.1 191 54 = some (.ifCond .ne 12, ((66, 0), ([], []))) := (kT_191 54).trans rfl
theorem r_191_57 : xT.1 191 57 = some (.iload_n 3, ((0, 0), ([], []))) := (kT_191 57).trans rfl
theorem r_191_58 : xT.1 191 58 = some (.iload 4, ((0, 0), ([], []))) := (kT_191 58).trans rfl
theorem r_191_60 : xT.1 191 60 = some (.invokestatic 56, ((159, 2), ([], [1]))) := (kT_191 60).trans rfl
theorem r_191_63 : xT.1 191 63 = some (.goto 4, ((67, 0), ([], []))) := (kT_191 63).trans rfl
theorem r_191_66 : xT.1 191 66 = some (.iconst (-1), ((0, 0), ([.int (-1)], []))) := (kT_191 66).trans rfl
theorem r_191_67 : xT.1 191 67 = some (.ireturn, ((0, 0), ([], []))) := (kT_191 67).trans rfl
theorem kT_192 (pc : Nat) : xT.1 192 pc = xfind k_192 pc := rfl
theorem r_192_0 : xT.1 192 0 = some (.aload_n 0, ((0, 0), ([], []))) := (kT_192 0).trans rfl
theorem r_192_1 : xT.1 192 1 = some (.iload_n 1, ((0, 0), ([], []))) := (kT_192 1).trans rfl
theorem r_192_2 : xT.1 192 2 = some (.iload_n 2, ((0, 0), ([], []))) := (kT_192 2).trans rfl
theorem r_192_3 : xT.1 192 3 = some (.invokevirtual 124, ((191, 3), ([], [0]))) := (kT_192 3).trans rfl
theorem r_192_6 : xT.1 192 6 = some (.istore 4, ((0, 0), ([], []))) := (kT_192 6).trans rfl
theorem r_192_8 : xT.1 192 8 = some (.iload 4, ((0, 0), ([], []))) := (kT_192 8).trans rfl
theorem r_192_10 : xT.1 192 10 = some (.iconst (-1), ((0, 0), ([.int (-1)], []))) := (kT_192 10).trans rfl
theorem r_192_11 : xT.1 192 11 = some (.if_icmp .ne 7, ((18, 0), ([], []))) := (kT_192 11).trans rfl
theorem r_192_14 : xT.1 192 14 = some (.iconst 0, ((0, 0), ([.int 0], []))) := (kT_192 14).trans rfl
theorem r_192_15 : xT.1 192 15 = some (.goto 12, ((27, 0), ([], []))) := (kT_192 15).trans rfl
theorem r_192_18 : xT.1 192 18 = some (.aload_n 0, ((0, 0), ([], []))) := (kT_192 18).trans rfl
theorem r_192_19 : xT.1 192 19 = some (.getfield 7, ((9, 0), ([], []))) := (kT_192 19).trans rfl
theorem r_192_22 : xT.1 192 22 = some (.iload 4, ((0, 0), ([], []))) := (kT_192 22).trans rfl
theorem r_192_24 : xT.1 192 24 = some (.iload_n 3, ((0, 0), ([], []))) := (kT_192 24).trans rfl
theorem r_192_25 : xT.1 192 25 = some (.iadd, ((0, 0), ([], []))) := (kT_192 25).trans rfl
theorem r_192_26 : xT.1 192 26 = some (.iaload, ((0, 0), ([], []))) := (kT_192 26).trans rfl
theorem r_192_27 : xT.1 192 27 = some (.ireturn, ((0, 0), ([], []))) := (kT_192 27).trans rfl
theorem kT_193 (pc : Nat) : xT.1 193 pc = xfind k_193 pc := rfl
theorem r_193_0 : xT.1 193 0 = some (.aload_n 0, ((0, 0), ([], []))) := (kT_193 0).trans rfl
theorem r_193_1 : xT.1 193 1 = some (.iload_n 1, ((0, 0), ([], []))) := (kT_193 1).trans rfl
theorem r_193_2 : xT.1 193 2 = some (.iload_n 2, ((0, 0), ([], []))) := (kT_193 2).trans rfl
theorem r_193_3 : xT.1 193 3 = some (.iconst 1, ((0, 0), ([.int 1], []))) := (kT_193 3).trans rfl
theorem r_193_4 : xT.1 193 4 = some (.invokevirtual 127, ((192, 4), ([], [0]))) := (kT_193 4).trans rfl
theorem r_193_7 : xT.1 193 7 = some (.ireturn, ((0, 0), ([], []))) := (kT_193 7).trans rfl
theorem kT_194 (pc : Nat) : xT.1 194 pc = xfind k_194 pc := rfl
theorem r_194_0 : xT.1 194 0 = some (.aload_n 0, ((0, 0), ([], []))) := (kT_194 0).trans rfl
theorem r_194_1 : xT.1 194 1 = some (.iload_n 1, ((0, 0), ([], []))) := (kT_194 1).trans rfl
theorem r_194_2 : xT.1 194 2 = some (.iload_n 2, ((0, 0), ([], []))) := (kT_194 2).trans rfl
theorem r_194_3 : xT.1 194 3 = some (.iconst 2, ((0, 0), ([.int 2], []))) := (kT_194 3).trans rfl
theorem r_194_4 : xT.1 194 4 = some (.invokevirtual 127, ((192, 4), ([], [0]))) := (kT_194 4).trans rfl
theorem r_194_7 : xT.1 194 7 = some (.ireturn, ((0, 0), ([], []))) := (kT_194 7).trans rfl
theorem kT_195 (pc : Nat) : xT.1 195 pc = xfind k_195 pc := rfl
theorem r_195_0 : xT.1 195 0 = some (.aload_n 0, ((0, 0), ([], []))) := (kT_195 0).trans rfl
theorem r_195_1 : xT.1 195 1 = some (.iload_n 1, ((0, 0), ([], []))) := (kT_195 1).trans rfl
theorem r_195_2 : xT.1 195 2 = some (.iload_n 2, ((0, 0), ([], []))) := (kT_195 2).trans rfl
theorem r_195_3 : xT.1 195 3 = some (.iconst 3, ((0, 0), ([.int 3], []))) := (kT_195 3).trans rfl
theorem r_195_4 : xT.1 195 4 = some (.invokevirtual 127, ((192, 4), ([], [0]))) := (kT_195 4).trans rfl
theorem r_195_7 : xT.1 195 7 = some (.ireturn, ((0, 0), ([], []))) := (kT_195 7).trans rfl
theorem kT_196 (pc : Nat) : xT.1 196 pc = xfind k_196 pc := rfl
theorem r_196_0 : xT.1 196 0 = some (.aload_n 0, ((0, 0), ([], []))) := (kT_196 0).trans rfl
theorem r_196_1 : xT.1 196 1 = some (.iload_n 1, ((0, 0), ([], []))) := (kT_196 1).trans rfl
theorem r_196_2 : xT.1 196 2 = some (.iload_n 2, ((0, 0), ([], []))) := (kT_196 2).trans rfl
theorem r_196_3 : xT.1 196 3 = some (.iconst 4, ((0, 0), ([.int 4], []))) := (kT_196 3).trans rfl
theorem r_196_4 : xT.1 196 4 = some (.invokevirtual 127, ((192, 4), ([], [0]))) := (kT_196 4).trans rfl
theorem r_196_7 : xT.1 196 7 = some (.ireturn, ((0, 0), ([], []))) := (kT_196 7).trans rfl
theorem kT_197 (pc : Nat) : xT.1 197 pc = xfind k_197 pc := rfl
theorem r_197_0 : xT.1 197 0 = some (.aload_n 0, ((0, 0), ([], []))) := (kT_197 0).trans rfl
theorem r_197_1 : xT.1 197 1 = some (.iload_n 1, ((0, 0), ([], []))) := (kT_197 1).trans rfl
theorem r_197_2 : xT.1 197 2 = some (.iload_n 2, ((0, 0), ([], []))) := (kT_197 2).trans rfl
theorem r_197_3 : xT.1 197 3 = some (.invokevirtual 124, ((191, 3), ([], [0]))) := (kT_197 3).trans rfl
theorem r_197_6 : xT.1 197 6 = some (.istore_n 3, ((0, 0), ([], []))) := (kT_197 6).trans rfl
theorem r_197_7 : xT.1 197 7 = some (.iload_n 3, ((0, 0), ([], []))) := (kT_197 7).trans rfl
theorem r_197_8 : xT.1 197 8 = some (.iconst (-1), ((0, 0), ([.int (-1)], []))) := (kT_197 8).trans rfl
theorem r_197_9 : xT.1 197 9 = some (.if_icmp .ne 7, ((16, 0), ([], []))) := (kT_197 9).trans rfl
theorem r_197_12 : xT.1 197 12 = some (.iconst 0, ((0, 0), ([.int 0], []))) := (kT_197 12).trans rfl
theorem r_197_13 : xT.1 197 13 = some (.goto 8, ((21, 0), ([], []))) := (kT_197 13).trans rfl
theorem r_197_16 : xT.1 197 16 = some (.aload_n 0, ((0, 0), ([], []))) := (kT_197 16).trans rfl
theorem r_197_17 : xT.1 197 17 = some (.iload_n 3, ((0, 0), ([], []))) := (kT_197 17).trans rfl
theorem r_197_18 : xT.1 197 18 = some (.invokevirtual 98, ((168, 2), ([], [0]))) := (kT_197 18).trans rfl
theorem r_197_21 : xT.1 197 21 = some (.ireturn, ((0, 0), ([], []))) := (kT_197 21).trans rfl
theorem kT_198 (pc : Nat) : xT.1 198 pc = xfind k_198 pc := rfl
theorem r_198_0 : xT.1 198 0 = some (.iconst 0, ((0, 0), ([.int 0], []))) := (kT_198 0).trans rfl
theorem r_198_1 : xT.1 198 1 = some (.istore_n 3, ((0, 0), ([], []))) := (kT_198 1).trans rfl
theorem r_198_2 : xT.1 198 2 = some (.iconst 0, ((0, 0), ([.int 0], []))) := (kT_198 2).trans rfl
theorem r_198_3 : xT.1 198 3 = some (.istore 4, ((0, 0), ([], []))) := (kT_198 3).trans rfl
theorem r_198_5 : xT.1 198 5 = some (.iload 4, ((0, 0), ([], []))) := (kT_198 5).trans rfl
theorem r_198_7 : xT.1 198 7 = some (.aload_n 0, ((0, 0), ([], []))) := (kT_198 7).trans rfl
theorem r_198_8 : xT.1 198 8 = some (.getfield 7, ((9, 0), ([], []))) := (kT_198 8).trans rfl
theorem r_198_11 : xT.1 198 11 = some (.sipush 132, ((0, 0), ([.int 132], []))) := (kT_198 11).trans rfl
theorem r_198_14 : xT.1 198 14 = some (.iload_n 1, ((0, 0), ([], []))) := (kT_198 14).trans rfl
theorem r_198_15 : xT.1 198 15 = some (.iadd, ((0, 0), ([], []))) := (kT_198 15).trans rfl
theorem r_198_16 : xT.1 198 16 = some (.iaload, ((0, 0), ([], []))) := (kT_198 16).trans rfl
theorem r_198_17 : xT.1 198 17 = some (.if_icmp .ge 50, ((67, 0), ([], []))) := (kT_198 17).trans rfl
theorem r_198_20 : xT.1 198 20 = some (.iload_n 3, ((0, 0), ([], []))) := (kT_198 20).trans rfl
theorem r_198_21 : xT.1 198 21 = some (.iload_n 2, ((0, 0), ([], []))) := (kT_198 21).trans rfl
theorem r_198_22 : xT.1 198 22 = some (.aload_n 0, ((0, 0), ([], []))) := (kT_198 22).trans rfl
theorem r_198_23 : xT.1 198 23 = some (.getfield 7, ((9, 0), ([], []))) := (kT_198 23).trans rfl
theorem r_198_26 : xT.1 198 26 = some (.iload_n 1, ((0, 0), ([], []))) := (kT_198 26).trans rfl
theorem r_198_27 : xT.1 198 27 = some (.iload 4, ((0, 0), ([], []))) := (kT_198 27).trans rfl
theorem r_198_29 : xT.1 198 29 = some (.invokestatic 56, ((159, 2), ([], [1]))) := (kT_198 29).trans rfl
theorem r_198_32 : xT.1 198 32 = some (.iconst 1, ((0, 0), ([.int 1], []))) := (kT_198 32).trans rfl
theorem r_198_33 : xT.1 198 33 = some (.iadd, ((0, 0), ([], []))) := (kT_198 33).trans rfl
theorem r_198_34 : xT.1 198 34 = some (.iaload, ((0, 0), ([], []))) := (kT_198 34).trans rfl
theorem r_198_35 : xT.1 198 35 = some (.aload_n 0, ((0, 0), ([], []))) := (kT_198 35).trans rfl
theorem r_198_36 : xT.1 198 36 = some (.getfield 7, ((9, 0), ([], []))) := (kT_198 36).trans rfl
theorem r_198_39 : xT.1 198 39 = some (.iload_n 1, ((0, 0), ([], []))) := (kT_198 39).trans rfl
theorem r_198_40 : xT.1 198 40 = some (.iload 4, ((0, 0), ([], []))) := (kT_198 40).trans rfl
theorem r_198_42 : xT.1 198 42 = some (.invokestatic 56, ((159, 2), ([], [1]))) := (kT_198 42).trans rfl
theorem r_198_45 : xT.1 198 45 = some (.iconst 2, ((0, 0), ([.int 2], []))) := (kT_198 45).trans rfl
theorem r_198_46 : xT.1 198 46 = some (.iadd, ((0, 0), ([], []))) := (kT_198 46).trans rfl
theorem r_198_47 : xT.1 198 47 = some (.iaload, ((0, 0), ([], []))) := (kT_198 47).trans rfl
theorem r_198_48 : xT.1 198 48 = some (.invokestatic 52, ((150, 3), ([], [1]))) := (kT_198 48).trans rfl
theorem r_198_51 : xT.1 198 51 = some (.ifCond .eq 7, ((58, 0), ([], []))) := (kT_198 51).trans rfl
theorem r_198_54 : xT.1 198 54 = some (.iconst 1, ((0, 0), ([.int 1], []))) := (kT_198 54).trans rfl
theorem r_198_55 : xT.1 198 55 = some (.goto 4, ((59, 0), ([], []))) := (kT_198 55).trans rfl
theorem r_198_58 : xT.1 198 58 = some (.iconst 0, ((0, 0), ([.int 0], []))) := (kT_198 58).trans rfl
theorem r_198_59 : xT.1 198 59 = some (.iadd, ((0, 0), ([], []))) := (kT_198 59).trans rfl
theorem r_198_60 : xT.1 198 60 = some (.istore_n 3, ((0, 0), ([], []))) := (kT_198 60).trans rfl
theorem r_198_61 : xT.1 198 61 = some (.iinc 4 1, ((0, 0), ([.int (1)], []))) := (kT_198 61).trans rfl
theorem r_198_64 : xT.1 198 64 = some (.goto (-59), ((5, 0), ([], []))) := (kT_198 64).trans rfl
theorem r_198_67 : xT.1 198 67 = some (.iload_n 3, ((0, 0), ([], []))) := (kT_198 67).trans rfl
theorem r_198_68 : xT.1 198 68 = some (.ireturn, ((0, 0), ([], []))) := (kT_198 68).trans rfl
theorem kT_199 (pc : Nat) : xT.1 199 pc = xfind k_199 pc := rfl
theorem r_199_0 : xT.1 199 0 = some (.aload_n 0, ((0, 0), ([], []))) := (kT_199 0).trans rfl
theorem r_199_1 : xT.1 199 1 = some (.iload_n 1, ((0, 0), ([], []))) := (kT_199 1).trans rfl
theorem r_199_2 : xT.1 199 2 = some (.invokevirtual 84, ((158, 2), ([], [0]))) := (kT_199 2).trans rfl
theorem r_199_5 : xT.1 199 5 = some (.istore_n 3, ((0, 0), ([], []))) := (kT_199 5).trans rfl
theorem r_199_6 : xT.1 199 6 = some (.iload_n 3, ((0, 0), ([], []))) := (kT_199 6).trans rfl
theorem r_199_7 : xT.1 199 7 = some (.iconst (-1), ((0, 0), ([.int (-1)], []))) := (kT_199 7).trans rfl
theorem r_199_8 : xT.1 199 8 = some (.if_icmp .ne 9, ((17, 0), ([], []))) := (kT_199 8).trans rfl
theorem r_199_11 : xT.1 199 11 = some (.aload_n 0, ((0, 0), ([], []))) := (kT_199 11).trans rfl
theorem r_199_12 : xT.1 199 12 = some (.iconst 1, ((0, 0), ([.int 1], []))) := (kT_199 12).trans rfl
theorem r_199_13 : xT.1 199 13 = some (.invokevirtual 60, ((153, 2), ([], [0]))) := (kT_199 13).trans rfl
theorem r_199_16 : xT.1 199 16 = some (.ireturn, ((0, 0), ([], []))) := (kT_199 16).trans rfl
theorem r_199_17 : xT.1 199 17 = some (.iload_n 2, ((0, 0), ([], []))) := (kT_199 17).trans rfl
theorem r_199_18 : xT.1 199 18 = some (.iconst 0, ((0, 0), ([.int 0], []))) := (kT_199 18).trans rfl
theorem r_199_19 : xT.1 199 19 = some (.sipush 999, ((0, 0), ([.int 999], []))) := (kT_199 19).trans rfl
theorem r_199_22 : xT.1 199 22 = some (.invokestatic 52, ((150, 3), ([], [1]))) := (kT_199 22).trans rfl
theorem r_199_25 : xT.1 199 25 = some (.ifCond .eq 16, ((41, 0), ([], []))) := (kT_199 25).trans rfl
theorem r_199_28 : xT.1 199 28 = some (.aload_n 0, ((0, 0), ([], []))) := (kT_199 28).trans rfl
theorem r_199_29 : xT.1 199 29 = some (.aload_n 0, ((0, 0), ([], []))) := (kT_199 29).trans rfl
theorem r_199_30 : xT.1 199 30 = some (.iload_n 3, ((0, 0), ([], []))) := (kT_199 30).trans rfl
theorem r_199_31 : xT.1 199 31 = some (.iload_n 2, ((0, 0), ([], []))) := (kT_199 31).trans rfl
theorem r_199_32 : xT.1 199 32 = some (.invokevirtual 130, ((198, 3), ([], [0]))) := (kT_199 32).trans rfl
theorem r_199_35 : xT.1 199 35 = some (.invokevirtual 64, ((152, 2), ([], [0]))) := (kT_199 35).trans rfl
theorem r_199_38 : xT.1 199 38 = some (.goto 8, ((46, 0), ([], []))) := (kT_199 38).trans rfl
theorem r_199_41 : xT.1 199 41 = some (.aload_n 0, ((0, 0), ([], []))) := (kT_199 41).trans rfl
theorem r_199_42 : xT.1 199 42 = some (.iconst 2, ((0, 0), ([.int 2], []))) := (kT_199 42).trans rfl
theorem r_199_43 : xT.1 199 43 = some (.invokevirtual 60, ((153, 2), ([], [0]))) := (kT_199 43).trans rfl
theorem r_199_46 : xT.1 199 46 = some (.ireturn, ((0, 0), ([], []))) := (kT_199 46).trans rfl
theorem kT_200 (pc : Nat) : xT.1 200 pc = xfind k_200 pc := rfl
theorem r_200_0 : xT.1 200 0 = some (.aload_n 0, ((0, 0), ([], []))) := (kT_200 0).trans rfl
theorem r_200_1 : xT.1 200 1 = some (.iload_n 1, ((0, 0), ([], []))) := (kT_200 1).trans rfl
theorem r_200_2 : xT.1 200 2 = some (.invokevirtual 84, ((158, 2), ([], [0]))) := (kT_200 2).trans rfl
theorem r_200_5 : xT.1 200 5 = some (.istore_n 2, ((0, 0), ([], []))) := (kT_200 5).trans rfl
theorem r_200_6 : xT.1 200 6 = some (.iload_n 2, ((0, 0), ([], []))) := (kT_200 6).trans rfl
theorem r_200_7 : xT.1 200 7 = some (.iconst (-1), ((0, 0), ([.int (-1)], []))) := (kT_200 7).trans rfl
theorem r_200_8 : xT.1 200 8 = some (.if_icmp .eq 16, ((24, 0), ([], []))) := (kT_200 8).trans rfl
theorem r_200_11 : xT.1 200 11 = some (.aload_n 0, ((0, 0), ([], []))) := (kT_200 11).trans rfl
theorem r_200_12 : xT.1 200 12 = some (.getfield 7, ((9, 0), ([], []))) := (kT_200 12).trans rfl
theorem r_200_15 : xT.1 200 15 = some (.sipush 132, ((0, 0), ([.int 132], []))) := (kT_200 15).trans rfl
theorem r_200_18 : xT.1 200 18 = some (.iload_n 2, ((0, 0), ([], []))) := (kT_200 18).trans rfl
theorem r_200_19 : xT.1 200 19 = some (.iadd, ((0, 0), ([], []))) := (kT_200 19).trans rfl
theorem r_200_20 : xT.1 200 20 = some (.iaload, ((0, 0), ([], []))) := (kT_200 20).trans rfl
theorem r_200_21 : xT.1 200 21 = some (.ifCond .ne 9, ((30, 0), ([], []))) := (kT_200 21).trans rfl
theorem r_200_24 : xT.1 200 24 = some (.aload_n 0, ((0, 0), ([], []))) := (kT_200 24).trans rfl
theorem r_200_25 : xT.1 200 25 = some (.iconst 1, ((0, 0), ([.int 1], []))) := (kT_200 25).trans rfl
theorem r_200_26 : xT.1 200 26 = some (.invokevirtual 60, ((153, 2), ([], [0]))) := (kT_200 26).trans rfl
theorem r_200_29 : xT.1 200 29 = some (.ireturn, ((0, 0), ([], []))) := (kT_200 29).trans rfl
theorem r_200_30 : xT.1 200 30 = some (.iconst 0, ((0, 0), ([.int 0], []))) := (kT_200 30).trans rfl
theorem r_200_31 : xT.1 200 31 = some (.istore_n 3, ((0, 0), ([], []))) := (kT_200 31).trans rfl
theorem r_200_32 : xT.1 200 32 = some (.aload_n 0, ((0, 0), ([], []))) := (kT_200 32).trans rfl
theorem r_200_33 : xT.1 200 33 = some (.iload_n 2, ((0, 0), ([], []))) := (kT_200 33).trans rfl
theorem r_200_34 : xT.1 200 34 = some (.iconst 0, ((0, 0), ([.int 0], []))) := (kT_200 34).trans rfl
theorem r_200_35 : xT.1 200 35 = some (.invokevirtual 130, ((198, 3), ([], [0]))) := (kT_200 35).trans rfl
theorem r_200_38 : xT.1 200 38 = some (.istore 4, ((0, 0), ([], []))) := (kT_200 38).trans rfl
theorem r_200_40 : xT.1 200 40 = some (.iconst 1, ((0, 0), ([.int 1], []))) := (kT_200 40).trans rfl
theorem r_200_41 : xT.1 200 41 = some (.istore 5, ((0, 0), ([], []))) := (kT_200 41).trans rfl
theorem r_200_43 : xT.1 200 43 = some (.iload 5, ((0, 0), ([], []))) := (kT_200 43).trans rfl
theorem r_200_45 : xT.1 200 45 = some (.sipush 999, ((0, 0), ([.int 999], []))) := (kT_200 45).trans rfl
theorem r_200_48 : xT.1 200 48 = some (.if_icmp .gt 48, ((96, 0), ([], []))) := (kT_200 48).trans rfl
theorem r_200_51 : xT.1 200 51 = some (.aload_n 0, ((0, 0), ([], []))) := (kT_200 51).trans rfl
theorem r_200_52 : xT.1 200 52 = some (.iload_n 2, ((0, 0), ([], []))) := (kT_200 52).trans rfl
theorem r_200_53 : xT.1 200 53 = some (.iload 5, ((0, 0), ([], []))) := (kT_200 53).trans rfl
theorem r_200_55 : xT.1 200 55 = some (.invokevirtual 130, ((198, 3), ([], [0]))) := (kT_200 55).trans rfl
theorem r_200_58 : xT.1 200 58 = some (.istore 6, ((0, 0), ([], []))) := (kT_200 58).trans rfl
theorem r_200_60 : xT.1 200 60 = some (.iload 6, ((0, 0), ([], []))) := (kT_200 60).trans rfl
theorem r_200_62 : xT.1 200 62 = some (.iload 4, ((0, 0), ([], []))) := (kT_200 62).trans rfl
theorem r_200_64 : xT.1 200 64 = some (.if_icmp .le 8, ((72, 0), ([], []))) := (kT_200 64).trans rfl
theorem r_200_67 : xT.1 200 67 = some (.iload 5, ((0, 0), ([], []))) := (kT_200 67).trans rfl
theorem r_200_69 : xT.1 200 69 = some (.goto 4, ((73, 0), ([], []))) := (kT_200 69).trans rfl
theorem r_200_72 : xT.1 200 72 = some (.iload_n 3, ((0, 0), ([], []))) := (kT_200 72).trans rfl
theorem r_200_73 : xT.1 200 73 = some (.istore_n 3, ((0, 0), ([], []))) := (kT_200 73).trans rfl
theorem r_200_74 : xT.1 200 74 = some (.iload 6, ((0, 0), ([], []))) := (kT_200 74).trans rfl
theorem r_200_76 : xT.1 200 76 = some (.iload 4, ((0, 0), ([], []))) := (kT_200 76).trans rfl
theorem r_200_78 : xT.1 200 78 = some (.if_icmp .le 8, ((86, 0), ([], []))) := (kT_200 78).trans rfl
theorem r_200_81 : xT.1 200 81 = some (.iload 6, ((0, 0), ([], []))) := (kT_200 81).trans rfl
theorem r_200_83 : xT.1 200 83 = some (.goto 5, ((88, 0), ([], []))) := (kT_200 83).trans rfl
theorem r_200_86 : xT.1 200 86 = some (.iload 4, ((0, 0), ([], []))) := (kT_200 86).trans rfl
theorem r_200_88 : xT.1 200 88 = some (.istore 4, ((0, 0), ([], []))) := (kT_200 88).trans rfl
theorem r_200_90 : xT.1 200 90 = some (.iinc 5 1, ((0, 0), ([.int (1)], []))) := (kT_200 90).trans rfl
theorem r_200_93 : xT.1 200 93 = some (.goto (-50), ((43, 0), ([], []))) := (kT_200 93).trans rfl
theorem r_200_96 : xT.1 200 96 = some (.aload_n 0, ((0, 0), ([], []))) := (kT_200 96).trans rfl
theorem r_200_97 : xT.1 200 97 = some (.iload_n 3, ((0, 0), ([], []))) := (kT_200 97).trans rfl
theorem r_200_98 : xT.1 200 98 = some (.invokevirtual 64, ((152, 2), ([], [0]))) := (kT_200 98).trans rfl
theorem r_200_101 : xT.1 200 101 = some (.ireturn, ((0, 0), ([], []))) := (kT_200 101).trans rfl
theorem kT_201 (pc : Nat) : xT.1 201 pc = xfind k_201 pc := rfl
theorem r_201_0 : xT.1 201 0 = some (.aload_n 0, ((0, 0), ([], []))) := (kT_201 0).trans rfl
theorem r_201_1 : xT.1 201 1 = some (.iload_n 1, ((0, 0), ([], []))) := (kT_201 1).trans rfl
theorem r_201_2 : xT.1 201 2 = some (.invokevirtual 133, ((200, 2), ([], [0]))) := (kT_201 2).trans rfl
theorem r_201_5 : xT.1 201 5 = some (.ireturn, ((0, 0), ([], []))) := (kT_201 5).trans rfl
theorem kT_202 (pc : Nat) : xT.1 202 pc = xfind k_202 pc := rfl
theorem r_202_0 : xT.1 202 0 = some (.aload_n 0, ((0, 0), ([], []))) := (kT_202 0).trans rfl
theorem r_202_1 : xT.1 202 1 = some (.iload_n 1, ((0, 0), ([], []))) := (kT_202 1).trans rfl
theorem r_202_2 : xT.1 202 2 = some (.invokevirtual 84, ((158, 2), ([], [0]))) := (kT_202 2).trans rfl
theorem r_202_5 : xT.1 202 5 = some (.istore_n 2, ((0, 0), ([], []))) := (kT_202 5).trans rfl
theorem r_202_6 : xT.1 202 6 = some (.iload_n 2, ((0, 0), ([], []))) := (kT_202 6).trans rfl
theorem r_202_7 : xT.1 202 7 = some (.iconst (-1), ((0, 0), ([.int (-1)], []))) := (kT_202 7).trans rfl
theorem r_202_8 : xT.1 202 8 = some (.if_icmp .ne 9, ((17, 0), ([], []))) := (kT_202 8).trans rfl
theorem r_202_11 : xT.1 202 11 = some (.aload_n 0, ((0, 0), ([], []))) := (kT_202 11).trans rfl
theorem r_202_12 : xT.1 202 12 = some (.iconst 1, ((0, 0), ([.int 1], []))) := (kT_202 12).trans rfl
theorem r_202_13 : xT.1 202 13 = some (.invokevirtual 60, ((153, 2), ([], [0]))) := (kT_202 13).trans rfl
theorem r_202_16 : xT.1 202 16 = some (.ireturn, ((0, 0), ([], []))) := (kT_202 16).trans rfl
theorem r_202_17 : xT.1 202 17 = some (.iconst 0, ((0, 0), ([.int 0], []))) := (kT_202 17).trans rfl
theorem r_202_18 : xT.1 202 18 = some (.istore_n 3, ((0, 0), ([], []))) := (kT_202 18).trans rfl
theorem r_202_19 : xT.1 202 19 = some (.iconst 0, ((0, 0), ([.int 0], []))) := (kT_202 19).trans rfl
theorem r_202_20 : xT.1 202 20 = some (.istore 4, ((0, 0), ([], []))) := (kT_202 20).trans rfl
theorem r_202_22 : xT.1 202 22 = some (.iload 4, ((0, 0), ([], []))) := (kT_202 22).trans rfl
theorem r_202_24 : xT.1 202 24 = some (.sipush 999, ((0, 0), ([.int 999], []))) := (kT_202 24).trans rfl
theorem r_202_27 : xT.1 202 27 = some (.if_icmp .gt 27, ((54, 0), ([], []))) := (kT_202 27).trans rfl
theorem r_202_30 : xT.1 202 30 = some (.iload_n 3, ((0, 0), ([], []))) := (kT_202 30).trans rfl
theorem r_202_31 : xT.1 202 31 = some (.aload_n 0, ((0, 0), ([], []))) := (kT_202 31).trans rfl
theorem r_202_32 : xT.1 202 32 = some (.iload_n 2, ((0, 0), ([], []))) := (kT_202 32).trans rfl
theorem r_202_33 : xT.1 202 33 = some (.iload 4, ((0, 0), ([], []))) := (kT_202 33).trans rfl
theorem r_202_35 : xT.1 202 35 = some (.invokevirtual 130, ((198, 3), ([], [0]))) := (kT_202 35).trans rfl
theorem r_202_38 : xT.1 202 38 = some (.ifCond .le 7, ((45, 0), ([], []))) := (kT_202 38).trans rfl
theorem r_202_41 : xT.1 202 41 = some (.iconst 1, ((0, 0), ([.int 1], []))) := (kT_202 41).trans rfl
theorem r_202_42 : xT.1 202 42 = some (.goto 4, ((46, 0), ([], []))) := (kT_202 42).trans rfl
theorem r_202_45 : xT.1 202 45 = some (.iconst 0, ((0, 0), ([.int 0], []))) := (kT_202 45).trans rfl
theorem r_202_46 : xT.1 202 46 = some (.iadd, ((0, 0), ([], []))) := (kT_202 46).trans rfl
theorem r_202_47 : xT.1 202 47 = some (.istore_n 3, ((0, 0), ([], []))) := (kT_202 47).trans rfl
theorem r_202_48 : xT.1 202 48 = some (.iinc 4 1, ((0, 0), ([.int (1)], []))) := (kT_202 48).trans rfl
theorem r_202_51 : xT.1 202 51 = some (.goto (-29), ((22, 0), ([], []))) := (kT_202 51).trans rfl
theorem r_202_54 : xT.1 202 54 = some (.aload_n 0, ((0, 0), ([], []))) := (kT_202 54).trans rfl
theorem r_202_55 : xT.1 202 55 = some (.iload_n 3, ((0, 0), ([], []))) := (kT_202 55).trans rfl
theorem r_202_56 : xT.1 202 56 = some (.invokevirtual 64, ((152, 2), ([], [0]))) := (kT_202 56).trans rfl
theorem r_202_59 : xT.1 202 59 = some (.ireturn, ((0, 0), ([], []))) := (kT_202 59).trans rfl
theorem kT_203 (pc : Nat) : xT.1 203 pc = xfind k_203 pc := rfl
theorem r_203_0 : xT.1 203 0 = some (.aload_n 0, ((0, 0), ([], []))) := (kT_203 0).trans rfl
theorem r_203_1 : xT.1 203 1 = some (.aload_n 0, ((0, 0), ([], []))) := (kT_203 1).trans rfl
theorem r_203_2 : xT.1 203 2 = some (.getfield 7, ((9, 0), ([], []))) := (kT_203 2).trans rfl
theorem r_203_5 : xT.1 203 5 = some (.iconst 4, ((0, 0), ([.int 4], []))) := (kT_203 5).trans rfl
theorem r_203_6 : xT.1 203 6 = some (.iaload, ((0, 0), ([], []))) := (kT_203 6).trans rfl
theorem r_203_7 : xT.1 203 7 = some (.invokevirtual 64, ((152, 2), ([], [0]))) := (kT_203 7).trans rfl
theorem r_203_10 : xT.1 203 10 = some (.ireturn, ((0, 0), ([], []))) := (kT_203 10).trans rfl
theorem kT_204 (pc : Nat) : xT.1 204 pc = xfind k_204 pc := rfl
theorem r_204_0 : xT.1 204 0 = some (.iload_n 1, ((0, 0), ([], []))) := (kT_204 0).trans rfl
theorem r_204_1 : xT.1 204 1 = some (.iconst 0, ((0, 0), ([.int 0], []))) := (kT_204 1).trans rfl
theorem r_204_2 : xT.1 204 2 = some (.iconst 4, ((0, 0), ([.int 4], []))) := (kT_204 2).trans rfl
theorem r_204_3 : xT.1 204 3 = some (.invokestatic 52, ((150, 3), ([], [1]))) := (kT_204 3).trans rfl
theorem r_204_6 : xT.1 204 6 = some (.ifCond .eq 17, ((23, 0), ([], []))) := (kT_204 6).trans rfl
theorem r_204_9 : xT.1 204 9 = some (.iload_n 1, ((0, 0), ([], []))) := (kT_204 9).trans rfl
theorem r_204_10 : xT.1 204 10 = some (.aload_n 0, ((0, 0), ([], []))) := (kT_204 10).trans rfl
theorem r_204_11 : xT.1 204 11 = some (.getfield 7, ((9, 0), ([], []))) := (kT_204 11).trans rfl
theorem r_204_14 : xT.1 204 14 = some (.iconst 4, ((0, 0), ([.int 4], []))) := (kT_204 14).trans rfl
theorem r_204_15 : xT.1 204 15 = some (.iaload, ((0, 0), ([], []))) := (kT_204 15).trans rfl
theorem r_204_16 : xT.1 204 16 = some (.if_icmp .ge 7, ((23, 0), ([], []))) := (kT_204 16).trans rfl
theorem r_204_19 : xT.1 204 19 = some (.iconst 1, ((0, 0), ([.int 1], []))) := (kT_204 19).trans rfl
theorem r_204_20 : xT.1 204 20 = some (.goto 4, ((24, 0), ([], []))) := (kT_204 20).trans rfl
theorem r_204_23 : xT.1 204 23 = some (.iconst 0, ((0, 0), ([.int 0], []))) := (kT_204 23).trans rfl
theorem r_204_24 : xT.1 204 24 = some (.istore_n 2, ((0, 0), ([], []))) := (kT_204 24).trans rfl
theorem r_204_25 : xT.1 204 25 = some (.iload_n 2, ((0, 0), ([], []))) := (kT_204 25).trans rfl
theorem r_204_26 : xT.1 204 26 = some (.ifCond .eq 29, ((55, 0), ([], []))) := (kT_204 26).trans rfl
theorem r_204_29 : xT.1 204 29 = some (.aload_n 0, ((0, 0), ([], []))) := (kT_204 29).trans rfl
theorem r_204_30 : xT.1 204 30 = some (.aload_n 0, ((0, 0), ([], []))) := (kT_204 30).trans rfl
theorem r_204_31 : xT.1 204 31 = some (.getfield 7, ((9, 0), ([], []))) := (kT_204 31).trans rfl
theorem r_204_34 : xT.1 204 34 = some (.iconst 5, ((0, 0), ([.int 5], []))) := (kT_204 34).trans rfl
theorem r_204_35 : xT.1 204 35 = some (.aload_n 0, ((0, 0), ([], []))) := (kT_204 35).trans rfl
theorem r_204_36 : xT.1 204 36 = some (.getfield 7, ((9, 0), ([], []))) := (kT_204 36).trans rfl
theorem r_204_39 : xT.1 204 39 = some (.iconst 4, ((0, 0), ([.int 4], []))) := (kT_204 39).trans rfl
theorem r_204_40 : xT.1 204 40 = some (.iaload, ((0, 0), ([], []))) := (kT_204 40).trans rfl
theorem r_204_41 : xT.1 204 41 = some (.iconst 1, ((0, 0), ([.int 1], []))) := (kT_204 41).trans rfl
theorem r_204_42 : xT.1 204 42 = some (.isub, ((0, 0), ([], []))) := (kT_204 42).trans rfl
theorem r_204_43 : xT.1 204 43 = some (.iload_n 1, ((0, 0), ([], []))) := (kT_204 43).trans rfl
theorem r_204_44 : xT.1 204 44 = some (.isub, ((0, 0), ([], []))) := (kT_204 44).trans rfl
theorem r_204_45 : xT.1 204 45 = some (.iconst 5, ((0, 0), ([.int 5], []))) := (kT_204 45).trans rfl
theorem r_204_46 : xT.1 204 46 = some (.irem, ((0, 0), ([], []))) := (kT_204 46).trans rfl
theorem r_204_47 : xT.1 204 47 = some (.iadd, ((0, 0), ([], []))) := (kT_204 47).trans rfl
theorem r_204_48 : xT.1 204 48 = some (.iaload, ((0, 0), ([], []))) := (kT_204 48).trans rfl
theorem r_204_49 : xT.1 204 49 = some (.invokevirtual 64, ((152, 2), ([], [0]))) := (kT_204 49).trans rfl
theorem r_204_52 : xT.1 204 52 = some (.goto 8, ((60, 0), ([], []))) := (kT_204 52).trans rfl
theorem r_204_55 : xT.1 204 55 = some (.aload_n 0, ((0, 0), ([], []))) := (kT_204 55).trans rfl
theorem r_204_56 : xT.1 204 56 = some (.iconst 1, ((0, 0), ([.int 1], []))) := (kT_204 56).trans rfl
theorem r_204_57 : xT.1 204 57 = some (.invokevirtual 60, ((153, 2), ([], [0]))) := (kT_204 57).trans rfl
theorem r_204_60 : xT.1 204 60 = some (.ireturn, ((0, 0), ([], []))) := (kT_204 60).trans rfl
theorem kT_205 (pc : Nat) : xT.1 205 pc = xfind k_205 pc := rfl
theorem r_205_0 : xT.1 205 0 = some (.iconst 0, ((0, 0), ([.int 0], []))) := (kT_205 0).trans rfl
theorem r_205_1 : xT.1 205 1 = some (.istore_n 3, ((0, 0), ([], []))) := (kT_205 1).trans rfl
theorem r_205_2 : xT.1 205 2 = some (.iconst 0, ((0, 0), ([.int 0], []))) := (kT_205 2).trans rfl
theorem r_205_3 : xT.1 205 3 = some (.istore 4, ((0, 0), ([], []))) := (kT_205 3).trans rfl
theorem r_205_5 : xT.1 205 5 = some (.iload 4, ((0, 0), ([], []))) := (kT_205 5).trans rfl
theorem r_205_7 : xT.1 205 7 = some (.bipush 9, ((0, 0), ([.int 9], []))) := (kT_205 7).trans rfl
theorem r_205_9 : xT.1 205 9 = some (.if_icmp .ge 26, ((35, 0), ([], []))) := (kT_205 9).trans rfl
theorem r_205_12 : xT.1 205 12 = some (.iload_n 3, ((0, 0), ([], []))) := (kT_205 12).trans rfl
theorem r_205_13 : xT.1 205 13 = some (.aload_n 0, ((0, 0), ([], []))) := (kT_205 13).trans rfl
theorem r_205_14 : xT.1 205 14 = some (.getfield 7, ((9, 0), ([], []))) := (kT_205 14).trans rfl
theorem r_205_17 : xT.1 205 17 = some (.iload_n 1, ((0, 0), ([], []))) := (kT_205 17).trans rfl
theorem r_205_18 : xT.1 205 18 = some (.bipush 9, ((0, 0), ([.int 9], []))) := (kT_205 18).trans rfl
theorem r_205_20 : xT.1 205 20 = some (.iload_n 2, ((0, 0), ([], []))) := (kT_205 20).trans rfl
theorem r_205_21 : xT.1 205 21 = some (.imul, ((0, 0), ([], []))) := (kT_205 21).trans rfl
theorem r_205_22 : xT.1 205 22 = some (.iadd, ((0, 0), ([], []))) := (kT_205 22).trans rfl
theorem r_205_23 : xT.1 205 23 = some (.iload 4, ((0, 0), ([], []))) := (kT_205 23).trans rfl
theorem r_205_25 : xT.1 205 25 = some (.iadd, ((0, 0), ([], []))) := (kT_205 25).trans rfl
theorem r_205_26 : xT.1 205 26 = some (.iaload, ((0, 0), ([], []))) := (kT_205 26).trans rfl
theorem r_205_27 : xT.1 205 27 = some (.iadd, ((0, 0), ([], []))) := (kT_205 27).trans rfl
theorem r_205_28 : xT.1 205 28 = some (.istore_n 3, ((0, 0), ([], []))) := (kT_205 28).trans rfl
theorem r_205_29 : xT.1 205 29 = some (.iinc 4 1, ((0, 0), ([.int (1)], []))) := (kT_205 29).trans rfl
theorem r_205_32 : xT.1 205 32 = some (.goto (-27), ((5, 0), ([], []))) := (kT_205 32).trans rfl
theorem r_205_35 : xT.1 205 35 = some (.iload_n 3, ((0, 0), ([], []))) := (kT_205 35).trans rfl
theorem r_205_36 : xT.1 205 36 = some (.ireturn, ((0, 0), ([], []))) := (kT_205 36).trans rfl
theorem kT_206 (pc : Nat) : xT.1 206 pc = xfind k_206 pc := rfl
theorem r_206_0 : xT.1 206 0 = some (.aload_n 0, ((0, 0), ([], []))) := (kT_206 0).trans rfl
theorem r_206_1 : xT.1 206 1 = some (.iload_n 1, ((0, 0), ([], []))) := (kT_206 1).trans rfl
theorem r_206_2 : xT.1 206 2 = some (.invokevirtual 80, ((157, 2), ([], [0]))) := (kT_206 2).trans rfl
theorem r_206_5 : xT.1 206 5 = some (.ifCond .eq 17, ((22, 0), ([], []))) := (kT_206 5).trans rfl
theorem r_206_8 : xT.1 206 8 = some (.aload_n 0, ((0, 0), ([], []))) := (kT_206 8).trans rfl
theorem r_206_9 : xT.1 206 9 = some (.aload_n 0, ((0, 0), ([], []))) := (kT_206 9).trans rfl
theorem r_206_10 : xT.1 206 10 = some (.bipush 30, ((0, 0), ([.int 30], []))) := (kT_206 10).trans rfl
theorem r_206_12 : xT.1 206 12 = some (.iload_n 1, ((0, 0), ([], []))) := (kT_206 12).trans rfl
theorem r_206_13 : xT.1 206 13 = some (.invokevirtual 136, ((205, 3), ([], [0]))) := (kT_206 13).trans rfl
theorem r_206_16 : xT.1 206 16 = some (.invokevirtual 64, ((152, 2), ([], [0]))) := (kT_206 16).trans rfl
theorem r_206_19 : xT.1 206 19 = some (.goto 8, ((27, 0), ([], []))) := (kT_206 19).trans rfl
theorem r_206_22 : xT.1 206 22 = some (.aload_n 0, ((0, 0), ([], []))) := (kT_206 22).trans rfl
theorem r_206_23 : xT.1 206 23 = some (.iconst 1, ((0, 0), ([.int 1], []))) := (kT_206 23).trans rfl
theorem r_206_24 : xT.1 206 24 = some (.invokevirtual 60, ((153, 2), ([], [0]))) := (kT_206 24).trans rfl
theorem r_206_27 : xT.1 206 27 = some (.ireturn, ((0, 0), ([], []))) := (kT_206 27).trans rfl
theorem kT_207 (pc : Nat) : xT.1 207 pc = xfind k_207 pc := rfl
theorem r_207_0 : xT.1 207 0 = some (.aload_n 0, ((0, 0), ([], []))) := (kT_207 0).trans rfl
theorem r_207_1 : xT.1 207 1 = some (.iload_n 1, ((0, 0), ([], []))) := (kT_207 1).trans rfl
theorem r_207_2 : xT.1 207 2 = some (.invokevirtual 80, ((157, 2), ([], [0]))) := (kT_207 2).trans rfl
theorem r_207_5 : xT.1 207 5 = some (.ifCond .eq 17, ((22, 0), ([], []))) := (kT_207 5).trans rfl
theorem r_207_8 : xT.1 207 8 = some (.aload_n 0, ((0, 0), ([], []))) := (kT_207 8).trans rfl
theorem r_207_9 : xT.1 207 9 = some (.aload_n 0, ((0, 0), ([], []))) := (kT_207 9).trans rfl
theorem r_207_10 : xT.1 207 10 = some (.bipush 75, ((0, 0), ([.int 75], []))) := (kT_207 10).trans rfl
theorem r_207_12 : xT.1 207 12 = some (.iload_n 1, ((0, 0), ([], []))) := (kT_207 12).trans rfl
theorem r_207_13 : xT.1 207 13 = some (.invokevirtual 136, ((205, 3), ([], [0]))) := (kT_207 13).trans rfl
theorem r_207_16 : xT.1 207 16 = some (.invokevirtual 64, ((152, 2), ([], [0]))) := (kT_207 16).trans rfl
theorem r_207_19 : xT.1 207 19 = some (.goto 8, ((27, 0), ([], []))) := (kT_207 19).trans rfl
theorem r_207_22 : xT.1 207 22 = some (.aload_n 0, ((0, 0), ([], []))) := (kT_207 22).trans rfl
theorem r_207_23 : xT.1 207 23 = some (.iconst 1, ((0, 0), ([.int 1], []))) := (kT_207 23).trans rfl
theorem r_207_24 : xT.1 207 24 = some (.invokevirtual 60, ((153, 2), ([], [0]))) := (kT_207 24).trans rfl
theorem r_207_27 : xT.1 207 27 = some (.ireturn, ((0, 0), ([], []))) := (kT_207 27).trans rfl
theorem kT_208 (pc : Nat) : xT.1 208 pc = xfind k_208 pc := rfl
theorem r_208_0 : xT.1 208 0 = some (.aload_n 0, ((0, 0), ([], []))) := (kT_208 0).trans rfl
theorem r_208_1 : xT.1 208 1 = some (.iload_n 1, ((0, 0), ([], []))) := (kT_208 1).trans rfl
theorem r_208_2 : xT.1 208 2 = some (.invokevirtual 80, ((157, 2), ([], [0]))) := (kT_208 2).trans rfl
theorem r_208_5 : xT.1 208 5 = some (.ifCond .eq 19, ((24, 0), ([], []))) := (kT_208 5).trans rfl
theorem r_208_8 : xT.1 208 8 = some (.aload_n 0, ((0, 0), ([], []))) := (kT_208 8).trans rfl
theorem r_208_9 : xT.1 208 9 = some (.aload_n 0, ((0, 0), ([], []))) := (kT_208 9).trans rfl
theorem r_208_10 : xT.1 208 10 = some (.getfield 7, ((9, 0), ([], []))) := (kT_208 10).trans rfl
theorem r_208_13 : xT.1 208 13 = some (.bipush 20, ((0, 0), ([.int 20], []))) := (kT_208 13).trans rfl
theorem r_208_15 : xT.1 208 15 = some (.iload_n 1, ((0, 0), ([], []))) := (kT_208 15).trans rfl
theorem r_208_16 : xT.1 208 16 = some (.iadd, ((0, 0), ([], []))) := (kT_208 16).trans rfl
theorem r_208_17 : xT.1 208 17 = some (.iaload, ((0, 0), ([], []))) := (kT_208 17).trans rfl
theorem r_208_18 : xT.1 208 18 = some (.invokevirtual 64, ((152, 2), ([], [0]))) := (kT_208 18).trans rfl
theorem r_208_21 : xT.1 208 21 = some (.goto 8, ((29, 0), ([], []))) := (kT_208 21).trans rfl
theorem r_208_24 : xT.1 208 24 = some (.aload_n 0, ((0, 0), ([], []))) := (kT_208 24).trans rfl
theorem r_208_25 : xT.1 208 25 = some (.iconst 1, ((0, 0), ([.int 1], []))) := (kT_208 25).trans rfl
theorem r_208_26 : xT.1 208 26 = some (.invokevirtual 60, ((153, 2), ([], [0]))) := (kT_208 26).trans rfl
theorem r_208_29 : xT.1 208 29 = some (.ireturn, ((0, 0), ([], []))) := (kT_208 29).trans rfl
theorem kT_209 (pc : Nat) : xT.1 209 pc = xfind k_209 pc := rfl
theorem r_209_0 : xT.1 209 0 = some (.aload_n 0, ((0, 0), ([], []))) := (kT_209 0).trans rfl
theorem r_209_1 : xT.1 209 1 = some (.aload_n 0, ((0, 0), ([], []))) := (kT_209 1).trans rfl
theorem r_209_2 : xT.1 209 2 = some (.iload_n 1, ((0, 0), ([], []))) := (kT_209 2).trans rfl
theorem r_209_3 : xT.1 209 3 = some (.invokevirtual 80, ((157, 2), ([], [0]))) := (kT_209 3).trans rfl
theorem r_209_6 : xT.1 209 6 = some (.ifCond .ne 7, ((13, 0), ([], []))) := (kT_209 6).trans rfl
theorem r_209_9 : xT.1 209 9 = some (.iconst 1, ((0, 0), ([.int 1], []))) := (kT_209 9).trans rfl
theorem r_209_10 : xT.1 209 10 = some (.goto 18, ((28, 0), ([], []))) := (kT_209 10).trans rfl
theorem r_209_13 : xT.1 209 13 = some (.aload_n 0, ((0, 0), ([], []))) := (kT_209 13).trans rfl
theorem r_209_14 : xT.1 209 14 = some (.bipush 30, ((0, 0), ([.int 30], []))) := (kT_209 14).trans rfl
theorem r_209_16 : xT.1 209 16 = some (.iload_n 1, ((0, 0), ([], []))) := (kT_209 16).trans rfl
theorem r_209_17 : xT.1 209 17 = some (.invokevirtual 136, ((205, 3), ([], [0]))) := (kT_209 17).trans rfl
theorem r_209_20 : xT.1 209 20 = some (.ifCond .ne 7, ((27, 0), ([], []))) := (kT_209 20).trans rfl
theorem r_209_23 : xT.1 209 23 = some (.iconst 2, ((0, 0), ([.int 2], []))) := (kT_209 23).trans rfl
theorem r_209_24 : xT.1 209 24 = some (.goto 4, ((28, 0), ([], []))) := (kT_209 24).trans rfl
theorem r_209_27 : xT.1 209 27 = some (.iconst 0, ((0, 0), ([.int 0], []))) := (kT_209 27).trans rfl
theorem r_209_28 : xT.1 209 28 = some (.putfield 42, ((9, 12), ([], [0]))) := (kT_209 28).trans rfl
theorem r_209_31 : xT.1 209 31 = some (.aload_n 0, ((0, 0), ([], []))) := (kT_209 31).trans rfl
theorem r_209_32 : xT.1 209 32 = some (.getfield 42, ((9, 12), ([], []))) := (kT_209 32).trans rfl
theorem r_209_35 : xT.1 209 35 = some (.ifCond .ne 25, ((60, 0), ([], []))) := (kT_209 35).trans rfl
theorem r_209_38 : xT.1 209 38 = some (.aload_n 0, ((0, 0), ([], []))) := (kT_209 38).trans rfl
theorem r_209_39 : xT.1 209 39 = some (.getfield 7, ((9, 0), ([], []))) := (kT_209 39).trans rfl
theorem r_209_42 : xT.1 209 42 = some (.bipush 20, ((0, 0), ([.int 20], []))) := (kT_209 42).trans rfl
theorem r_209_44 : xT.1 209 44 = some (.iload_n 1, ((0, 0), ([], []))) := (kT_209 44).trans rfl
theorem r_209_45 : xT.1 209 45 = some (.iadd, ((0, 0), ([], []))) := (kT_209 45).trans rfl
theorem r_209_46 : xT.1 209 46 = some (.iaload, ((0, 0), ([], []))) := (kT_209 46).trans rfl
theorem r_209_47 : xT.1 209 47 = some (.i2d, ((0, 0), ([], []))) := (kT_209 47).trans rfl
theorem r_209_48 : xT.1 209 48 = some (.aload_n 0, ((0, 0), ([], []))) := (kT_209 48).trans rfl
theorem r_209_49 : xT.1 209 49 = some (.bipush 30, ((0, 0), ([.int 30], []))) := (kT_209 49).trans rfl
theorem r_209_51 : xT.1 209 51 = some (.iload_n 1, ((0, 0), ([], []))) := (kT_209 51).trans rfl
theorem r_209_52 : xT.1 209 52 = some (.invokevirtual 136, ((205, 3), ([], [0]))) := (kT_209 52).trans rfl
theorem r_209_55 : xT.1 209 55 = some (.i2d, ((0, 0), ([], []))) := (kT_209 55).trans rfl
theorem r_209_56 : xT.1 209 56 = some (.ddiv, ((0, 0), ([], []))) := (kT_209 56).trans rfl
theorem r_209_57 : xT.1 209 57 = some (.goto 4, ((61, 0), ([], []))) := (kT_209 57).trans rfl
theorem r_209_60 : xT.1 209 60 = some (.dconst 0, ((0, 0), ([], []))) := (kT_209 60).trans rfl
theorem r_209_61 : xT.1 209 61 = some (.dreturn, ((0, 0), ([], []))) := (kT_209 61).trans rfl
theorem kT_210 (pc : Nat) : xT.1 210 pc = xfind k_210 pc := rfl
theorem r_210_0 : xT.1 210 0 = some (.iconst 0, ((0, 0), ([.int 0], []))) := (kT_210 0).trans rfl
theorem r_210_1 : xT.1 210 1 = some (.istore_n 2, ((0, 0), ([], []))) := (kT_210 1).trans rfl
theorem r_210_2 : xT.1 210 2 = some (.iconst 0, ((0, 0), ([.int 0], []))) := (kT_210 2).trans rfl
theorem r_210_3 : xT.1 210 3 = some (.istore_n 3, ((0, 0), ([], []))) := (kT_210 3).trans rfl
theorem r_210_4 : xT.1 210 4 = some (.iload_n 3, ((0, 0), ([], []))) := (kT_210 4).trans rfl
theorem r_210_5 : xT.1 210 5 = some (.bipush 9, ((0, 0), ([.int 9], []))) := (kT_210 5).trans rfl
theorem r_210_7 : xT.1 210 7 = some (.if_icmp .ge 51, ((58, 0), ([], []))) := (kT_210 7).trans rfl
theorem r_210_10 : xT.1 210 10 = some (.bipush 9, ((0, 0), ([.int 9], []))) := (kT_210 10).trans rfl
theorem r_210_12 : xT.1 210 12 = some (.iload_n 1, ((0, 0), ([], []))) := (kT_210 12).trans rfl
theorem r_210_13 : xT.1 210 13 = some (.imul, ((0, 0), ([], []))) := (kT_210 13).trans rfl
theorem r_210_14 : xT.1 210 14 = some (.iload_n 3, ((0, 0), ([], []))) := (kT_210 14).trans rfl
theorem r_210_15 : xT.1 210 15 = some (.iadd, ((0, 0), ([], []))) := (kT_210 15).trans rfl
theorem r_210_16 : xT.1 210 16 = some (.istore 4, ((0, 0), ([], []))) := (kT_210 16).trans rfl
theorem r_210_18 : xT.1 210 18 = some (.iload_n 2, ((0, 0), ([], []))) := (kT_210 18).trans rfl
theorem r_210_19 : xT.1 210 19 = some (.bipush 10, ((0, 0), ([.int 10], []))) := (kT_210 19).trans rfl
theorem r_210_21 : xT.1 210 21 = some (.aload_n 0, ((0, 0), ([], []))) := (kT_210 21).trans rfl
theorem r_210_22 : xT.1 210 22 = some (.getfield 7, ((9, 0), ([], []))) := (kT_210 22).trans rfl
theorem r_210_25 : xT.1 210 25 = some (.bipush 75, ((0, 0), ([.int 75], []))) := (kT_210 25).trans rfl
theorem r_210_27 : xT.1 210 27 = some (.iload 4, ((0, 0), ([], []))) := (kT_210 27).trans rfl
theorem r_210_29 : xT.1 210 29 = some (.iadd, ((0, 0), ([], []))) := (kT_210 29).trans rfl
theorem r_210_30 : xT.1 210 30 = some (.iaload, ((0, 0), ([], []))) := (kT_210 30).trans rfl
theorem r_210_31 : xT.1 210 31 = some (.imul, ((0, 0), ([], []))) := (kT_210 31).trans rfl
theorem r_210_32 : xT.1 210 32 = some (.iload_n 3, ((0, 0), ([], []))) := (kT_210 32).trans rfl
theorem r_210_33 : xT.1 210 33 = some (.iconst 1, ((0, 0), ([.int 1], []))) := (kT_210 33).trans rfl
theorem r_210_34 : xT.1 210 34 = some (.iadd, ((0, 0), ([], []))) := (kT_210 34).trans rfl
theorem r_210_35 : xT.1 210 35 = some (.aload_n 0, ((0, 0), ([], []))) := (kT_210 35).trans rfl
theorem r_210_36 : xT.1 210 36 = some (.getfield 7, ((9, 0), ([], []))) := (kT_210 36).trans rfl
theorem r_210_39 : xT.1 210 39 = some (.bipush 30, ((0, 0), ([.int 30], []))) := (kT_210 39).trans rfl
theorem r_210_41 : xT.1 210 41 = some (.iload 4, ((0, 0), ([], []))) := (kT_210 41).trans rfl
theorem r_210_43 : xT.1 210 43 = some (.iadd, ((0, 0), ([], []))) := (kT_210 43).trans rfl
theorem r_210_44 : xT.1 210 44 = some (.iaload, ((0, 0), ([], []))) := (kT_210 44).trans rfl
theorem r_210_45 : xT.1 210 45 = some (.imul, ((0, 0), ([], []))) := (kT_210 45).trans rfl
theorem r_210_46 : xT.1 210 46 = some (.isub, ((0, 0), ([], []))) := (kT_210 46).trans rfl
theorem r_210_47 : xT.1 210 47 = some (.invokestatic 139, ((151, 1), ([], [1]))) := (kT_210 47).trans rfl
theorem r_210_50 : xT.1 210 50 = some (.iadd, ((0, 0), ([], []))) := (kT_210 50).trans rfl
theorem r_210_51 : xT.1 210 51 = some (.istore_n 2, ((0, 0), ([], []))) := (kT_210 51).trans rfl
theorem r_210_52 : xT.1 210 52 = some (.iinc 3 1, ((0, 0), ([.int (1)], []))) := (kT_210 52).trans rfl
theorem r_210_55 : xT.1 210 55 = some (.goto (-51), ((4, 0), ([], []))) := (kT_210 55).trans rfl
theorem r_210_58 : xT.1 210 58 = some (.iload_n 2, ((0, 0), ([], []))) := (kT_210 58).trans rfl
theorem r_210_59 : xT.1 210 59 = some (.ireturn, ((0, 0), ([], []))) := (kT_210 59).trans rfl
theorem kT_211 (pc : Nat) : xT.1 211 pc = xfind k_211 pc := rfl
theorem r_211_0 : xT.1 211 0 = some (.aload_n 0, ((0, 0), ([], []))) := (kT_211 0).trans rfl
theorem r_211_1 : xT.1 211 1 = some (.iload_n 1, ((0, 0), ([], []))) := (kT_211 1).trans rfl
theorem r_211_2 : xT.1 211 2 = some (.invokevirtual 80, ((157, 2), ([], [0]))) := (kT_211 2).trans rfl
theorem r_211_5 : xT.1 211 5 = some (.ifCond .eq 15, ((20, 0), ([], []))) := (kT_211 5).trans rfl
theorem r_211_8 : xT.1 211 8 = some (.aload_n 0, ((0, 0), ([], []))) := (kT_211 8).trans rfl
theorem r_211_9 : xT.1 211 9 = some (.aload_n 0, ((0, 0), ([], []))) := (kT_211 9).trans rfl
theorem r_211_10 : xT.1 211 10 = some (.iload_n 1, ((0, 0), ([], []))) := (kT_211 10).trans rfl
theorem r_211_11 : xT.1 211 11 = some (.invokevirtual 142, ((210, 2), ([], [0]))) := (kT_211 11).trans rfl
theorem r_211_14 : xT.1 211 14 = some (.invokevirtual 64, ((152, 2), ([], [0]))) := (kT_211 14).trans rfl
theorem r_211_17 : xT.1 211 17 = some (.goto 8, ((25, 0), ([], []))) := (kT_211 17).trans rfl
theorem r_211_20 : xT.1 211 20 = some (.aload_n 0, ((0, 0), ([], []))) := (kT_211 20).trans rfl
theorem r_211_21 : xT.1 211 21 = some (.iconst 1, ((0, 0), ([.int 1], []))) := (kT_211 21).trans rfl
theorem r_211_22 : xT.1 211 22 = some (.invokevirtual 60, ((153, 2), ([], [0]))) := (kT_211 22).trans rfl
theorem r_211_25 : xT.1 211 25 = some (.ireturn, ((0, 0), ([], []))) := (kT_211 25).trans rfl
theorem kT_212 (pc : Nat) : xT.1 212 pc = xfind k_212 pc := rfl
theorem r_212_0 : xT.1 212 0 = some (.iconst (-1), ((0, 0), ([.int (-1)], []))) := (kT_212 0).trans rfl
theorem r_212_1 : xT.1 212 1 = some (.istore_n 1, ((0, 0), ([], []))) := (kT_212 1).trans rfl
theorem r_212_2 : xT.1 212 2 = some (.iconst 0, ((0, 0), ([.int 0], []))) := (kT_212 2).trans rfl
theorem r_212_3 : xT.1 212 3 = some (.istore_n 2, ((0, 0), ([], []))) := (kT_212 3).trans rfl
theorem r_212_4 : xT.1 212 4 = some (.iload_n 2, ((0, 0), ([], []))) := (kT_212 4).trans rfl
theorem r_212_5 : xT.1 212 5 = some (.aload_n 0, ((0, 0), ([], []))) := (kT_212 5).trans rfl
theorem r_212_6 : xT.1 212 6 = some (.getfield 7, ((9, 0), ([], []))) := (kT_212 6).trans rfl
theorem r_212_9 : xT.1 212 9 = some (.iconst 0, ((0, 0), ([.int 0], []))) := (kT_212 9).trans rfl
theorem r_212_10 : xT.1 212 10 = some (.iaload, ((0, 0), ([], []))) := (kT_212 10).trans rfl
theorem r_212_11 : xT.1 212 11 = some (.if_icmp .ge 43, ((54, 0), ([], []))) := (kT_212 11).trans rfl
theorem r_212_14 : xT.1 212 14 = some (.aload_n 0, ((0, 0), ([], []))) := (kT_212 14).trans rfl
theorem r_212_15 : xT.1 212 15 = some (.bipush 30, ((0, 0), ([.int 30], []))) := (kT_212 15).trans rfl
theorem r_212_17 : xT.1 212 17 = some (.iload_n 2, ((0, 0), ([], []))) := (kT_212 17).trans rfl
theorem r_212_18 : xT.1 212 18 = some (.invokevirtual 136, ((205, 3), ([], [0]))) := (kT_212 18).trans rfl
theorem r_212_21 : xT.1 212 21 = some (.ifCond .le 27, ((48, 0), ([], []))) := (kT_212 21).trans rfl
theorem r_212_24 : xT.1 212 24 = some (.iload_n 1, ((0, 0), ([], []))) := (kT_212 24).trans rfl
theorem r_212_25 : xT.1 212 25 = some (.iconst (-1), ((0, 0), ([.int (-1)], []))) := (kT_212 25).trans rfl
theorem r_212_26 : xT.1 212 26 = some (.if_icmp .eq 16, ((42, 0), ([], []))) := (kT_212 26).trans rfl
theorem r_212_29 : xT.1 212 29 = some (.aload_n 0, ((0, 0), ([], []))) := (kT_212 29).trans rfl
theorem r_212_30 : xT.1 212 30 = some (.iload_n 2, ((0, 0), ([], []))) := (kT_212 30).trans rfl
theorem r_212_31 : xT.1 212 31 = some (.invokevirtual 142, ((210, 2), ([], [0]))) := (kT_212 31).trans rfl
theorem r_212_34 : xT.1 212 34 = some (.aload_n 0, ((0, 0), ([], []))) := (kT_212 34).trans rfl
theorem r_212_35 : xT.1 212 35 = some (.iload_n 1, ((0, 0), ([], []))) := (kT_212 35).trans rfl
theorem r_212_36 : xT.1 212 36 = some (.invokevirtual 142, ((210, 2), ([], [0]))) := (kT_212 36).trans rfl
theorem r_212_39 : xT.1 212 39 = some (.if_icmp .ge 7, ((46, 0), ([], []))) := (kT_212 39).trans rfl
theorem r_212_42 : xT.1 212 42 = some (.iload_n 2, ((0, 0), ([], []))) := (kT_212 42).trans rfl
theorem r_212_43 : xT.1 212 43 = some (.goto 4, ((47, 0), ([], []))) := (kT_212 43).trans rfl
theorem r_212_46 : xT.1 212 46 = some (.iload_n 1, ((0, 0), ([], []))) := (kT_212 46).trans rfl
theorem r_212_47 : xT.1 212 47 = some (.istore_n 1, ((0, 0), ([], []))) := (kT_212 47).trans rfl
theorem r_212_48 : xT.1 212 48 = some (.iinc 2 1, ((0, 0), ([.int (1)], []))) := (kT_212 48).trans rfl
theorem r_212_51 : xT.1 212 51 = some (.goto (-47), ((4, 0), ([], []))) := (kT_212 51).trans rfl
theorem r_212_54 : xT.1 212 54 = some (.iload_n 1, ((0, 0), ([], []))) := (kT_212 54).trans rfl
theorem r_212_55 : xT.1 212 55 = some (.iconst (-1), ((0, 0), ([.int (-1)], []))) := (kT_212 55).trans rfl
theorem r_212_56 : xT.1 212 56 = some (.if_icmp .ne 11, ((67, 0), ([], []))) := (kT_212 56).trans rfl
theorem r_212_59 : xT.1 212 59 = some (.aload_n 0, ((0, 0), ([], []))) := (kT_212 59).trans rfl
theorem r_212_60 : xT.1 212 60 = some (.iconst 1, ((0, 0), ([.int 1], []))) := (kT_212 60).trans rfl
theorem r_212_61 : xT.1 212 61 = some (.invokevirtual 60, ((153, 2), ([], [0]))) := (kT_212 61).trans rfl
theorem r_212_64 : xT.1 212 64 = some (.goto 8, ((72, 0), ([], []))) := (kT_212 64).trans rfl
theorem r_212_67 : xT.1 212 67 = some (.aload_n 0, ((0, 0), ([], []))) := (kT_212 67).trans rfl
theorem r_212_68 : xT.1 212 68 = some (.iload_n 1, ((0, 0), ([], []))) := (kT_212 68).trans rfl
theorem r_212_69 : xT.1 212 69 = some (.invokevirtual 64, ((152, 2), ([], [0]))) := (kT_212 69).trans rfl
theorem r_212_72 : xT.1 212 72 = some (.ireturn, ((0, 0), ([], []))) := (kT_212 72).trans rfl
theorem kT_213 (pc : Nat) : xT.1 213 pc = xfind k_213 pc := rfl
theorem r_213_0 : xT.1 213 0 = some (.aload_n 0, ((0, 0), ([], []))) := (kT_213 0).trans rfl
theorem r_213_1 : xT.1 213 1 = some (.getfield 7, ((9, 0), ([], []))) := (kT_213 1).trans rfl
theorem r_213_4 : xT.1 213 4 = some (.bipush 20, ((0, 0), ([.int 20], []))) := (kT_213 4).trans rfl
theorem r_213_6 : xT.1 213 6 = some (.iload_n 2, ((0, 0), ([], []))) := (kT_213 6).trans rfl
theorem r_213_7 : xT.1 213 7 = some (.iadd, ((0, 0), ([], []))) := (kT_213 7).trans rfl
theorem r_213_8 : xT.1 213 8 = some (.iaload, ((0, 0), ([], []))) := (kT_213 8).trans rfl
theorem r_213_9 : xT.1 213 9 = some (.aload_n 0, ((0, 0), ([], []))) := (kT_213 9).trans rfl
theorem r_213_10 : xT.1 213 10 = some (.getfield 7, ((9, 0), ([], []))) := (kT_213 10).trans rfl
theorem r_213_13 : xT.1 213 13 = some (.bipush 20, ((0, 0), ([.int 20], []))) := (kT_213 13).trans rfl
theorem r_213_15 : xT.1 213 15 = some (.iload_n 1, ((0, 0), ([], []))) := (kT_213 15).trans rfl
theorem r_213_16 : xT.1 213 16 = some (.iadd, ((0, 0), ([], []))) := (kT_213 16).trans rfl
theorem r_213_17 : xT.1 213 17 = some (.iaload, ((0, 0), ([], []))) := (kT_213 17).trans rfl
theorem r_213_18 : xT.1 213 18 = some (.isub, ((0, 0), ([], []))) := (kT_213 18).trans rfl
theorem r_213_19 : xT.1 213 19 = some (.istore_n 3, ((0, 0), ([], []))) := (kT_213 19).trans rfl
theorem r_213_20 : xT.1 213 20 = some (.aload_n 0, ((0, 0), ([], []))) := (kT_213 20).trans rfl
theorem r_213_21 : xT.1 213 21 = some (.bipush 75, ((0, 0), ([.int 75], []))) := (kT_213 21).trans rfl
theorem r_213_23 : xT.1 213 23 = some (.iload_n 1, ((0, 0), ([], []))) := (kT_213 23).trans rfl
theorem r_213_24 : xT.1 213 24 = some (.invokevirtual 136, ((205, 3), ([], [0]))) := (kT_213 24).trans rfl
theorem r_213_27 : xT.1 213 27 = some (.aload_n 0, ((0, 0), ([], []))) := (kT_213 27).trans rfl
theorem r_213_28 : xT.1 213 28 = some (.bipush 75, ((0, 0), ([.int 75], []))) := (kT_213 28).trans rfl
theorem r_213_30 : xT.1 213 30 = some (.iload_n 2, ((0, 0), ([], []))) := (kT_213 30).trans rfl
theorem r_213_31 : xT.1 213 31 = some (.invokevirtual 136, ((205, 3), ([], [0]))) := (kT_213 31).trans rfl
theorem r_213_34 : xT.1 213 34 = some (.isub, ((0, 0), ([], []))) := (kT_213 34).trans rfl
theorem r_213_35 : xT.1 213 35 = some (.istore 4, ((0, 0), ([], []))) := (kT_213 35).trans rfl
theorem r_213_37 : xT.1 213 37 = some (.iload_n 3, ((0, 0), ([], []))) := (kT_213 37).trans rfl
theorem r_213_38 : xT.1 213 38 = some (.ifCond .gt 22, ((60, 0), ([], []))) := (kT_213 38).trans rfl
theorem r_213_41 : xT.1 213 41 = some (.iload_n 3, ((0, 0), ([], []))) := (kT_213 41).trans rfl
theorem r_213_42 : xT.1 213 42 = some (.ifCond .ne 22, ((64, 0), ([], []))) := (kT_213 42).trans rfl
theorem r_213_45 : xT.1 213 45 = some (.iload 4, ((0, 0), ([], []))) := (kT_213 45).trans rfl
theorem r_213_47 : xT.1 213 47 = some (.ifCond .gt 13, ((60, 0), ([], []))) := (kT_213 47).trans rfl
theorem r_213_50 : xT.1 213 50 = some (.iload 4, ((0, 0), ([], []))) := (kT_213 50).trans rfl
theorem r_213_52 : xT.1 213 52 = some (.ifCond .ne 12, ((64, 0), ([], []))) := (kT_213 52).trans rfl
theorem r_213_55 : xT.1 213 55 = some (.iload_n 1, ((0, 0), ([], []))) := (kT_213 55).trans rfl
theorem r_213_56 : xT.1 213 56 = some (.iload_n 2, ((0, 0), ([], []))) := (kT_213 56).trans rfl
theorem r_213_57 : xT.1 213 57 = some (.if_icmp .ge 7, ((64, 0), ([], []))) := (kT_213 57).trans rfl
theorem r_213_60 : xT.1 213 60 = some (.iconst 1, ((0, 0), ([.int 1], []))) := (kT_213 60).trans rfl
theorem r_213_61 : xT.1 213 61 = some (.goto 4, ((65, 0), ([], []))) := (kT_213 61).trans rfl
theorem r_213_64 : xT.1 213 64 = some (.iconst 0, ((0, 0), ([.int 0], []))) := (kT_213 64).trans rfl
theorem r_213_65 : xT.1 213 65 = some (.ireturn, ((0, 0), ([], []))) := (kT_213 65).trans rfl
theorem kT_214 (pc : Nat) : xT.1 214 pc = xfind k_214 pc := rfl
theorem r_214_0 : xT.1 214 0 = some (.iconst 0, ((0, 0), ([.int 0], []))) := (kT_214 0).trans rfl
theorem r_214_1 : xT.1 214 1 = some (.istore_n 2, ((0, 0), ([], []))) := (kT_214 1).trans rfl
theorem r_214_2 : xT.1 214 2 = some (.iload_n 2, ((0, 0), ([], []))) := (kT_214 2).trans rfl
theorem r_214_3 : xT.1 214 3 = some (.aload_n 0, ((0, 0), ([], []))) := (kT_214 3).trans rfl
theorem r_214_4 : xT.1 214 4 = some (.getfield 7, ((9, 0), ([], []))) := (kT_214 4).trans rfl
theorem r_214_7 : xT.1 214 7 = some (.iconst 0, ((0, 0), ([.int 0], []))) := (kT_214 7).trans rfl
theorem r_214_8 : xT.1 214 8 = some (.iaload, ((0, 0), ([], []))) := (kT_214 8).trans rfl
theorem r_214_9 : xT.1 214 9 = some (.if_icmp .ge 60, ((69, 0), ([], []))) := (kT_214 9).trans rfl
theorem r_214_12 : xT.1 214 12 = some (.iconst 0, ((0, 0), ([.int 0], []))) := (kT_214 12).trans rfl
theorem r_214_13 : xT.1 214 13 = some (.istore_n 3, ((0, 0), ([], []))) := (kT_214 13).trans rfl
theorem r_214_14 : xT.1 214 14 = some (.iconst 0, ((0, 0), ([.int 0], []))) := (kT_214 14).trans rfl
theorem r_214_15 : xT.1 214 15 = some (.istore 4, ((0, 0), ([], []))) := (kT_214 15).trans rfl
theorem r_214_17 : xT.1 214 17 = some (.iload 4, ((0, 0), ([], []))) := (kT_214 17).trans rfl
theorem r_214_19 : xT.1 214 19 = some (.aload_n 0, ((0, 0), ([], []))) := (kT_214 19).trans rfl
theorem r_214_20 : xT.1 214 20 = some (.getfield 7, ((9, 0), ([], []))) := (kT_214 20).trans rfl
theorem r_214_23 : xT.1 214 23 = some (.iconst 0, ((0, 0), ([.int 0], []))) := (kT_214 23).trans rfl
theorem r_214_24 : xT.1 214 24 = some (.iaload, ((0, 0), ([], []))) := (kT_214 24).trans rfl
theorem r_214_25 : xT.1 214 25 = some (.if_icmp .ge 27, ((52, 0), ([], []))) := (kT_214 25).trans rfl
theorem r_214_28 : xT.1 214 28 = some (.iload_n 3, ((0, 0), ([], []))) := (kT_214 28).trans rfl
theorem r_214_29 : xT.1 214 29 = some (.aload_n 0, ((0, 0), ([], []))) := (kT_214 29).trans rfl
theorem r_214_30 : xT.1 214 30 = some (.iload 4, ((0, 0), ([], []))) := (kT_214 30).trans rfl
theorem r_214_32 : xT.1 214 32 = some (.iload_n 2, ((0, 0), ([], []))) := (kT_214 32).trans rfl
theorem r_214_33 : xT.1 214 33 = some (.invokevirtual 145, ((213, 3), ([], [0]))) := (kT_214 33).trans rfl
theorem r_214_36 : xT.1 214 36 = some (.ifCond .eq 7, ((43, 0), ([], []))) := (kT_214 36).trans rfl
theorem r_214_39 : xT.1 214 39 = some (.iconst 1, ((0, 0), ([.int 1], []))) := (kT_214 39).trans rfl
theorem r_214_40 : xT.1 214 40 = some (.goto 4, ((44, 0), ([], []))) := (kT_214 40).trans rfl
theorem r_214_43 : xT.1 214 43 = some (.iconst 0, ((0, 0), ([.int 0], []))) := (kT_214 43).trans rfl
theorem r_214_44 : xT.1 214 44 = some (.iadd, ((0, 0), ([], []))) := (kT_214 44).trans rfl
theorem r_214_45 : xT.1 214 45 = some (.istore_n 3, ((0, 0), ([], []))) := (kT_214 45).trans rfl
theorem r_214_46 : xT.1 214 46 = some (.iinc 4 1, ((0, 0), ([.int (1)], []))) := (kT_214 46).trans rfl
theorem r_214_49 : xT.1 214 49 = some (.goto (-32), ((17, 0), ([], []))) := (kT_214 49).trans rfl
theorem r_214_52 : xT.1 214 52 = some (.iload_n 3, ((0, 0), ([], []))) := (kT_214 52).trans rfl
theorem r_214_53 : xT.1 214 53 = some (.iload_n 1, ((0, 0), ([], []))) := (kT_214 53).trans rfl
theorem r_214_54 : xT.1 214 54 = some (.if_icmp .ne 9, ((63, 0), ([], []))) := (kT_214 54).trans rfl
theorem r_214_57 : xT.1 214 57 = some (.aload_n 0, ((0, 0), ([], []))) := (kT_214 57).trans rfl
theorem r_214_58 : xT.1 214 58 = some (.iload_n 2, ((0, 0), ([], []))) := (kT_214 58).trans rfl
theorem r_214_59 : xT.1 214 59 = some (.invokevirtual 64, ((152, 2), ([], [0]))) := (kT_214 59).trans rfl
theorem r_214_62 : xT.1 214 62 = some (.ireturn, ((0, 0), ([], []))) := (kT_214 62).trans rfl
theorem r_214_63 : xT.1 214 63 = some (.iinc 2 1, ((0, 0), ([.int (1)], []))) := (kT_214 63).trans rfl
theorem r_214_66 : xT.1 214 66 = some (.goto (-64), ((2, 0), ([], []))) := (kT_214 66).trans rfl
theorem r_214_69 : xT.1 214 69 = some (.aload_n 0, ((0, 0), ([], []))) := (kT_214 69).trans rfl
theorem r_214_70 : xT.1 214 70 = some (.iconst 1, ((0, 0), ([.int 1], []))) := (kT_214 70).trans rfl
theorem r_214_71 : xT.1 214 71 = some (.invokevirtual 60, ((153, 2), ([], [0]))) := (kT_214 71).trans rfl
theorem r_214_74 : xT.1 214 74 = some (.ireturn, ((0, 0), ([], []))) := (kT_214 74).trans rfl
theorem kT_215 (pc : Nat) : xT.1 215 pc = xfind k_215 pc := rfl
theorem r_215_0 : xT.1 215 0 = some (.iconst 0, ((0, 0), ([.int 0], []))) := (kT_215 0).trans rfl
theorem r_215_1 : xT.1 215 1 = some (.istore_n 3, ((0, 0), ([], []))) := (kT_215 1).trans rfl
theorem r_215_2 : xT.1 215 2 = some (.iconst 0, ((0, 0), ([.int 0], []))) := (kT_215 2).trans rfl
theorem r_215_3 : xT.1 215 3 = some (.istore 4, ((0, 0), ([], []))) := (kT_215 3).trans rfl
theorem r_215_5 : xT.1 215 5 = some (.iload 4, ((0, 0), ([], []))) := (kT_215 5).trans rfl
theorem r_215_7 : xT.1 215 7 = some (.aload_n 0, ((0, 0), ([], []))) := (kT_215 7).trans rfl
theorem r_215_8 : xT.1 215 8 = some (.getfield 7, ((9, 0), ([], []))) := (kT_215 8).trans rfl
theorem r_215_11 : xT.1 215 11 = some (.iconst 0, ((0, 0), ([.int 0], []))) := (kT_215 11).trans rfl
theorem r_215_12 : xT.1 215 12 = some (.iaload, ((0, 0), ([], []))) := (kT_215 12).trans rfl
theorem r_215_13 : xT.1 215 13 = some (.if_icmp .ge 28, ((41, 0), ([], []))) := (kT_215 13).trans rfl
theorem r_215_16 : xT.1 215 16 = some (.iload_n 3, ((0, 0), ([], []))) := (kT_215 16).trans rfl
theorem r_215_17 : xT.1 215 17 = some (.aload_n 0, ((0, 0), ([], []))) := (kT_215 17).trans rfl
theorem r_215_18 : xT.1 215 18 = some (.getfield 7, ((9, 0), ([], []))) := (kT_215 18).trans rfl
theorem r_215_21 : xT.1 215 21 = some (.iload_n 1, ((0, 0), ([], []))) := (kT_215 21).trans rfl
theorem r_215_22 : xT.1 215 22 = some (.bipush 9, ((0, 0), ([.int 9], []))) := (kT_215 22).trans rfl
theorem r_215_24 : xT.1 215 24 = some (.iload 4, ((0, 0), ([], []))) := (kT_215 24).trans rfl
theorem r_215_26 : xT.1 215 26 = some (.imul, ((0, 0), ([], []))) := (kT_215 26).trans rfl
theorem r_215_27 : xT.1 215 27 = some (.iadd, ((0, 0), ([], []))) := (kT_215 27).trans rfl
theorem r_215_28 : xT.1 215 28 = some (.iload_n 2, ((0, 0), ([], []))) := (kT_215 28).trans rfl
theorem r_215_29 : xT.1 215 29 = some (.iadd, ((0, 0), ([], []))) := (kT_215 29).trans rfl
theorem r_215_30 : xT.1 215 30 = some (.iconst 1, ((0, 0), ([.int 1], []))) := (kT_215 30).trans rfl
theorem r_215_31 : xT.1 215 31 = some (.isub, ((0, 0), ([], []))) := (kT_215 31).trans rfl
theorem r_215_32 : xT.1 215 32 = some (.iaload, ((0, 0), ([], []))) := (kT_215 32).trans rfl
theorem r_215_33 : xT.1 215 33 = some (.iadd, ((0, 0), ([], []))) := (kT_215 33).trans rfl
theorem r_215_34 : xT.1 215 34 = some (.istore_n 3, ((0, 0), ([], []))) := (kT_215 34).trans rfl
theorem r_215_35 : xT.1 215 35 = some (.iinc 4 1, ((0, 0), ([.int (1)], []))) := (kT_215 35).trans rfl
theorem r_215_38 : xT.1 215 38 = some (.goto (-33), ((5, 0), ([], []))) := (kT_215 38).trans rfl
theorem r_215_41 : xT.1 215 41 = some (.iload_n 3, ((0, 0), ([], []))) := (kT_215 41).trans rfl
theorem r_215_42 : xT.1 215 42 = some (.ireturn, ((0, 0), ([], []))) := (kT_215 42).trans rfl
theorem kT_216 (pc : Nat) : xT.1 216 pc = xfind k_216 pc := rfl
theorem r_216_0 : xT.1 216 0 = some (.iload_n 1, ((0, 0), ([], []))) := (kT_216 0).trans rfl
theorem r_216_1 : xT.1 216 1 = some (.iconst 1, ((0, 0), ([.int 1], []))) := (kT_216 1).trans rfl
theorem r_216_2 : xT.1 216 2 = some (.bipush 9, ((0, 0), ([.int 9], []))) := (kT_216 2).trans rfl
theorem r_216_4 : xT.1 216 4 = some (.invokestatic 52, ((150, 3), ([], [1]))) := (kT_216 4).trans rfl
theorem r_216_7 : xT.1 216 7 = some (.ifCond .eq 17, ((24, 0), ([], []))) := (kT_216 7).trans rfl
theorem r_216_10 : xT.1 216 10 = some (.aload_n 0, ((0, 0), ([], []))) := (kT_216 10).trans rfl
theorem r_216_11 : xT.1 216 11 = some (.aload_n 0, ((0, 0), ([], []))) := (kT_216 11).trans rfl
theorem r_216_12 : xT.1 216 12 = some (.bipush 30, ((0, 0), ([.int 30], []))) := (kT_216 12).trans rfl
theorem r_216_14 : xT.1 216 14 = some (.iload_n 1, ((0, 0), ([], []))) := (kT_216 14).trans rfl
theorem r_216_15 : xT.1 216 15 = some (.invokevirtual 149, ((215, 3), ([], [0]))) := (kT_216 15).trans rfl
theorem r_216_18 : xT.1 216 18 = some (.invokevirtual 64, ((152, 2), ([], [0]))) := (kT_216 18).trans rfl
theorem r_216_21 : xT.1 216 21 = some (.goto 8, ((29, 0), ([], []))) := (kT_216 21).trans rfl
theorem r_216_24 : xT.1 216 24 = some (.aload_n 0, ((0, 0), ([], []))) := (kT_216 24).trans rfl
theorem r_216_25 : xT.1 216 25 = some (.iconst 1, ((0, 0), ([.int 1], []))) := (kT_216 25).trans rfl
theorem r_216_26 : xT.1 216 26 = some (.invokevirtual 60, ((153, 2), ([], [0]))) := (kT_216 26).trans rfl
theorem r_216_29 : xT.1 216 29 = some (.ireturn, ((0, 0), ([], []))) := (kT_216 29).trans rfl
