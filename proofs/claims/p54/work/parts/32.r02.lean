/-! the rows of the tables, one by one -/
theorem kT_129 (pc : Nat) : xT.1 129 pc = xfind k_129 pc := rfl
theorem r_129_0 : xT.1 129 0 = some (.aload_n 0, ((0, 0), ([], []))) := (kT_129 0).trans rfl
theorem r_129_1 : xT.1 129 1 = some (.iload_n 1, ((0, 0), ([], []))) := (kT_129 1).trans rfl
theorem r_129_2 : xT.1 129 2 = some (.invokevirtual 153, ((140, 2), ([], [0]))) := (kT_129 2).trans rfl
theorem r_129_5 : xT.1 129 5 = some (.astore_n 2, ((0, 0), ([], []))) := (kT_129 5).trans rfl
theorem r_129_6 : xT.1 129 6 = some (.aload_n 0, ((0, 0), ([], []))) := (kT_129 6).trans rfl
theorem r_129_7 : xT.1 129 7 = some (.getfield 43, ((8, 5), ([], []))) := (kT_129 7).trans rfl
theorem r_129_10 : xT.1 129 10 = some (.iconst 0, ((0, 0), ([.int 0], []))) := (kT_129 10).trans rfl
theorem r_129_11 : xT.1 129 11 = some (.invokevirtual 340, ((296, 2), ([], [0]))) := (kT_129 11).trans rfl
theorem r_129_14 : xT.1 129 14 = some (.aload_n 0, ((0, 0), ([], []))) := (kT_129 14).trans rfl
theorem r_129_15 : xT.1 129 15 = some (.getfield 43, ((8, 5), ([], []))) := (kT_129 15).trans rfl
theorem r_129_18 : xT.1 129 18 = some (.bipush 113, ((0, 0), ([.int 113], []))) := (kT_129 18).trans rfl
theorem r_129_20 : xT.1 129 20 = some (.invokevirtual 343, ((293, 2), ([], [0]))) := (kT_129 20).trans rfl
theorem r_129_23 : xT.1 129 23 = some (.aload_n 2, ((0, 0), ([], []))) := (kT_129 23).trans rfl
theorem r_129_24 : xT.1 129 24 = some (.getfield 143, ((7, 1), ([], []))) := (kT_129 24).trans rfl
theorem r_129_27 : xT.1 129 27 = some (.invokevirtual 346, ((294, 2), ([], [0]))) := (kT_129 27).trans rfl
theorem r_129_30 : xT.1 129 30 = some (.bipush 119, ((0, 0), ([.int 119], []))) := (kT_129 30).trans rfl
theorem r_129_32 : xT.1 129 32 = some (.invokevirtual 343, ((293, 2), ([], [0]))) := (kT_129 32).trans rfl
theorem r_129_35 : xT.1 129 35 = some (.aload_n 2, ((0, 0), ([], []))) := (kT_129 35).trans rfl
theorem r_129_36 : xT.1 129 36 = some (.getfield 157, ((7, 2), ([], []))) := (kT_129 36).trans rfl
theorem r_129_39 : xT.1 129 39 = some (.invokevirtual 346, ((294, 2), ([], [0]))) := (kT_129 39).trans rfl
theorem r_129_42 : xT.1 129 42 = some (.pop, ((0, 0), ([], []))) := (kT_129 42).trans rfl
theorem r_129_43 : xT.1 129 43 = some (.iconst 0, ((0, 0), ([.int 0], []))) := (kT_129 43).trans rfl
theorem r_129_44 : xT.1 129 44 = some (.istore_n 3, ((0, 0), ([], []))) := (kT_129 44).trans rfl
theorem r_129_45 : xT.1 129 45 = some (.iload_n 3, ((0, 0), ([], []))) := (kT_129 45).trans rfl
theorem r_129_46 : xT.1 129 46 = some (.aload_n 2, ((0, 0), ([], []))) := (kT_129 46).trans rfl
theorem r_129_47 : xT.1 129 47 = some (.getfield 160, ((7, 3), ([], []))) := (kT_129 47).trans rfl
theorem r_129_50 : xT.1 129 50 = some (.if_icmp .ge 19, ((69, 0), ([], []))) := (kT_129 50).trans rfl
theorem r_129_53 : xT.1 129 53 = some (.aload_n 0, ((0, 0), ([], []))) := (kT_129 53).trans rfl
theorem r_129_54 : xT.1 129 54 = some (.aload_n 2, ((0, 0), ([], []))) := (kT_129 54).trans rfl
theorem r_129_55 : xT.1 129 55 = some (.getfield 168, ((7, 0), ([], []))) := (kT_129 55).trans rfl
theorem r_129_58 : xT.1 129 58 = some (.iload_n 3, ((0, 0), ([], []))) := (kT_129 58).trans rfl
theorem r_129_59 : xT.1 129 59 = some (.aaload, ((0, 0), ([], []))) := (kT_129 59).trans rfl
theorem r_129_60 : xT.1 129 60 = some (.invokevirtual 349, ((147, 2), ([], [0]))) := (kT_129 60).trans rfl
theorem r_129_63 : xT.1 129 63 = some (.iinc 3 1, ((0, 0), ([.int (1)], []))) := (kT_129 63).trans rfl
theorem r_129_66 : xT.1 129 66 = some (.goto (-21), ((45, 0), ([], []))) := (kT_129 66).trans rfl
theorem r_129_69 : xT.1 129 69 = some (.aload_n 0, ((0, 0), ([], []))) := (kT_129 69).trans rfl
theorem r_129_70 : xT.1 129 70 = some (.getfield 43, ((8, 5), ([], []))) := (kT_129 70).trans rfl
theorem r_129_73 : xT.1 129 73 = some (.invokevirtual 353, ((297, 1), ([], [0]))) := (kT_129 73).trans rfl
theorem r_129_76 : xT.1 129 76 = some (.ireturn, ((0, 0), ([], []))) := (kT_129 76).trans rfl
theorem kT_130 (pc : Nat) : xT.1 130 pc = xfind k_130 pc := rfl
theorem r_130_0 : xT.1 130 0 = some (.iload_n 1, ((0, 0), ([], []))) := (kT_130 0).trans rfl
theorem r_130_1 : xT.1 130 1 = some (.ifCond .lt 14, ((15, 0), ([], []))) := (kT_130 1).trans rfl
theorem r_130_4 : xT.1 130 4 = some (.iload_n 1, ((0, 0), ([], []))) := (kT_130 4).trans rfl
theorem r_130_5 : xT.1 130 5 = some (.aload_n 0, ((0, 0), ([], []))) := (kT_130 5).trans rfl
theorem r_130_6 : xT.1 130 6 = some (.getfield 43, ((8, 5), ([], []))) := (kT_130 6).trans rfl
theorem r_130_9 : xT.1 130 9 = some (.invokevirtual 353, ((297, 1), ([], [0]))) := (kT_130 9).trans rfl
theorem r_130_12 : xT.1 130 12 = some (.if_icmp .lt 14, ((26, 0), ([], []))) := (kT_130 12).trans rfl
theorem r_130_15 : xT.1 130 15 = some (.new 163, ((2, 0), ([], [7]))) := (kT_130 15).trans rfl
theorem r_130_26 : xT.1 130 26 = some (.aload_n 0, ((0, 0), ([], []))) := (kT_130 26).trans rfl
theorem r_130_27 : xT.1 130 27 = some (.getfield 43, ((8, 5), ([], []))) := (kT_130 27).trans rfl
theorem r_130_30 : xT.1 130 30 = some (.iload_n 1, ((0, 0), ([], []))) := (kT_130 30).trans rfl
theorem r_130_31 : xT.1 130 31 = some (.invokevirtual 358, ((295, 2), ([], [0]))) := (kT_130 31).trans rfl
theorem r_130_34 : xT.1 130 34 = some (.ireturn, ((0, 0), ([], []))) := (kT_130 34).trans rfl
theorem kT_131 (pc : Nat) : xT.1 131 pc = xfind k_131 pc := rfl
theorem r_131_0 : xT.1 131 0 = some (.aload_n 0, ((0, 0), ([], []))) := (kT_131 0).trans rfl
theorem r_131_1 : xT.1 131 1 = some (.getfield 22, ((8, 2), ([], []))) := (kT_131 1).trans rfl
theorem r_131_4 : xT.1 131 4 = some (.getfield 362, ((5, 2), ([], []))) := (kT_131 4).trans rfl
theorem r_131_7 : xT.1 131 7 = some (.ireturn, ((0, 0), ([], []))) := (kT_131 7).trans rfl
theorem kT_132 (pc : Nat) : xT.1 132 pc = xfind k_132 pc := rfl
theorem r_132_0 : xT.1 132 0 = some (.aload_n 0, ((0, 0), ([], []))) := (kT_132 0).trans rfl
theorem r_132_1 : xT.1 132 1 = some (.getfield 22, ((8, 2), ([], []))) := (kT_132 1).trans rfl
theorem r_132_4 : xT.1 132 4 = some (.getfield 362, ((5, 2), ([], []))) := (kT_132 4).trans rfl
theorem r_132_7 : xT.1 132 7 = some (.ifCond .ne 14, ((21, 0), ([], []))) := (kT_132 7).trans rfl
theorem r_132_10 : xT.1 132 10 = some (.new 299, ((0, 0), ([], [7]))) := (kT_132 10).trans rfl
theorem r_132_21 : xT.1 132 21 = some (.aload_n 0, ((0, 0), ([], []))) := (kT_132 21).trans rfl
theorem r_132_22 : xT.1 132 22 = some (.getfield 22, ((8, 2), ([], []))) := (kT_132 22).trans rfl
theorem r_132_25 : xT.1 132 25 = some (.aload_n 0, ((0, 0), ([], []))) := (kT_132 25).trans rfl
theorem r_132_26 : xT.1 132 26 = some (.getfield 10, ((8, 0), ([], []))) := (kT_132 26).trans rfl
theorem r_132_29 : xT.1 132 29 = some (.invokevirtual 365, ((69, 2), ([], [0]))) := (kT_132 29).trans rfl
theorem r_132_32 : xT.1 132 32 = some (.aload_n 0, ((0, 0), ([], []))) := (kT_132 32).trans rfl
theorem r_132_33 : xT.1 132 33 = some (.getfield 22, ((8, 2), ([], []))) := (kT_132 33).trans rfl
theorem r_132_36 : xT.1 132 36 = some (.getfield 362, ((5, 2), ([], []))) := (kT_132 36).trans rfl
theorem r_132_39 : xT.1 132 39 = some (.ireturn, ((0, 0), ([], []))) := (kT_132 39).trans rfl
theorem kT_133 (pc : Nat) : xT.1 133 pc = xfind k_133 pc := rfl
theorem r_133_0 : xT.1 133 0 = some (.aload_n 0, ((0, 0), ([], []))) := (kT_133 0).trans rfl
theorem r_133_1 : xT.1 133 1 = some (.getfield 16, ((8, 1), ([], []))) := (kT_133 1).trans rfl
theorem r_133_4 : xT.1 133 4 = some (.aload_n 0, ((0, 0), ([], []))) := (kT_133 4).trans rfl
theorem r_133_5 : xT.1 133 5 = some (.getfield 10, ((8, 0), ([], []))) := (kT_133 5).trans rfl
theorem r_133_8 : xT.1 133 8 = some (.invokevirtual 368, ((11, 2), ([], [0]))) := (kT_133 8).trans rfl
theorem r_133_11 : xT.1 133 11 = some (.aload_n 0, ((0, 0), ([], []))) := (kT_133 11).trans rfl
theorem r_133_12 : xT.1 133 12 = some (.iconst 1, ((0, 0), ([.int 1], []))) := (kT_133 12).trans rfl
theorem r_133_13 : xT.1 133 13 = some (.putfield 47, ((8, 6), ([], [1]))) := (kT_133 13).trans rfl
theorem r_133_16 : xT.1 133 16 = some (.aload_n 0, ((0, 0), ([], []))) := (kT_133 16).trans rfl
theorem r_133_17 : xT.1 133 17 = some (.getfield 10, ((8, 0), ([], []))) := (kT_133 17).trans rfl
theorem r_133_20 : xT.1 133 20 = some (.getfield 129, ((1, 5), ([], []))) := (kT_133 20).trans rfl
theorem r_133_23 : xT.1 133 23 = some (.ireturn, ((0, 0), ([], []))) := (kT_133 23).trans rfl
theorem kT_134 (pc : Nat) : xT.1 134 pc = xfind k_134 pc := rfl
theorem r_134_0 : xT.1 134 0 = some (.aload_n 0, ((0, 0), ([], []))) := (kT_134 0).trans rfl
theorem r_134_1 : xT.1 134 1 = some (.getfield 47, ((8, 6), ([], []))) := (kT_134 1).trans rfl
theorem r_134_4 : xT.1 134 4 = some (.ifCond .ne 14, ((18, 0), ([], []))) := (kT_134 4).trans rfl
theorem r_134_7 : xT.1 134 7 = some (.new 299, ((0, 0), ([], [7]))) := (kT_134 7).trans rfl
theorem r_134_18 : xT.1 134 18 = some (.aload_n 0, ((0, 0), ([], []))) := (kT_134 18).trans rfl
theorem r_134_19 : xT.1 134 19 = some (.getfield 10, ((8, 0), ([], []))) := (kT_134 19).trans rfl
theorem r_134_22 : xT.1 134 22 = some (.aload_n 0, ((0, 0), ([], []))) := (kT_134 22).trans rfl
theorem r_134_23 : xT.1 134 23 = some (.getfield 16, ((8, 1), ([], []))) := (kT_134 23).trans rfl
theorem r_134_26 : xT.1 134 26 = some (.invokevirtual 368, ((11, 2), ([], [0]))) := (kT_134 26).trans rfl
theorem r_134_29 : xT.1 134 29 = some (.aload_n 0, ((0, 0), ([], []))) := (kT_134 29).trans rfl
theorem r_134_30 : xT.1 134 30 = some (.getfield 22, ((8, 2), ([], []))) := (kT_134 30).trans rfl
theorem r_134_33 : xT.1 134 33 = some (.invokevirtual 373, ((70, 1), ([], [0]))) := (kT_134 33).trans rfl
theorem r_134_36 : xT.1 134 36 = some (.aload_n 0, ((0, 0), ([], []))) := (kT_134 36).trans rfl
theorem r_134_37 : xT.1 134 37 = some (.getfield 10, ((8, 0), ([], []))) := (kT_134 37).trans rfl
theorem r_134_40 : xT.1 134 40 = some (.getfield 129, ((1, 5), ([], []))) := (kT_134 40).trans rfl
theorem r_134_43 : xT.1 134 43 = some (.ireturn, ((0, 0), ([], []))) := (kT_134 43).trans rfl
theorem kT_135 (pc : Nat) : xT.1 135 pc = xfind k_135 pc := rfl
theorem r_135_0 : xT.1 135 0 = some (.getstatic 374, ((0, 0), ([.ref 13], []))) := (kT_135 0).trans rfl
theorem r_135_3 : xT.1 135 3 = some (.aload_n 0, ((0, 0), ([], []))) := (kT_135 3).trans rfl
theorem r_135_4 : xT.1 135 4 = some (.invokevirtual 379, ((1, 1), ([], [4]))) := (kT_135 4).trans rfl
theorem r_135_7 : xT.1 135 7 = some (.iaload, ((0, 0), ([], []))) := (kT_135 7).trans rfl
theorem r_135_8 : xT.1 135 8 = some (.tableswitch 90 1 5 #[36, 47, 57, 68, 79], ((98, 36), ([], [44, 55, 65, 76, 87]))) := (kT_135 8).trans rfl
theorem r_135_44 : xT.1 135 44 = some (.new 163, ((2, 0), ([], [7]))) := (kT_135 44).trans rfl
theorem r_135_55 : xT.1 135 55 = some (.new 132, ((5, 0), ([], [7]))) := (kT_135 55).trans rfl
theorem r_135_65 : xT.1 135 65 = some (.new 203, ((1, 0), ([], [7]))) := (kT_135 65).trans rfl
theorem r_135_76 : xT.1 135 76 = some (.new 328, ((4, 0), ([], [7]))) := (kT_135 76).trans rfl
theorem r_135_87 : xT.1 135 87 = some (.new 299, ((0, 0), ([], [7]))) := (kT_135 87).trans rfl
theorem r_135_98 : xT.1 135 98 = some (.return_, ((0, 0), ([], []))) := (kT_135 98).trans rfl
theorem kT_136 (pc : Nat) : xT.1 136 pc = xfind k_136 pc := rfl
theorem r_136_0 : xT.1 136 0 = some (.iload_n 0, ((0, 0), ([], []))) := (kT_136 0).trans rfl
theorem r_136_1 : xT.1 136 1 = some (.ifCond .lt 14, ((15, 0), ([], []))) := (kT_136 1).trans rfl
theorem r_136_4 : xT.1 136 4 = some (.iload_n 0, ((0, 0), ([], []))) := (kT_136 4).trans rfl
theorem r_136_5 : xT.1 136 5 = some (.sipush 999, ((0, 0), ([.int 999], []))) := (kT_136 5).trans rfl
theorem r_136_8 : xT.1 136 8 = some (.if_icmp .gt 7, ((15, 0), ([], []))) := (kT_136 8).trans rfl
theorem r_136_11 : xT.1 136 11 = some (.iconst 1, ((0, 0), ([.int 1], []))) := (kT_136 11).trans rfl
theorem r_136_12 : xT.1 136 12 = some (.goto 4, ((16, 0), ([], []))) := (kT_136 12).trans rfl
theorem r_136_15 : xT.1 136 15 = some (.iconst 0, ((0, 0), ([.int 0], []))) := (kT_136 15).trans rfl
theorem r_136_16 : xT.1 136 16 = some (.ireturn, ((0, 0), ([], []))) := (kT_136 16).trans rfl
theorem kT_137 (pc : Nat) : xT.1 137 pc = xfind k_137 pc := rfl
theorem r_137_0 : xT.1 137 0 = some (.iload_n 0, ((0, 0), ([], []))) := (kT_137 0).trans rfl
theorem r_137_1 : xT.1 137 1 = some (.iconst 1, ((0, 0), ([.int 1], []))) := (kT_137 1).trans rfl
theorem r_137_2 : xT.1 137 2 = some (.if_icmp .lt 13, ((15, 0), ([], []))) := (kT_137 2).trans rfl
theorem r_137_5 : xT.1 137 5 = some (.iload_n 0, ((0, 0), ([], []))) := (kT_137 5).trans rfl
theorem r_137_6 : xT.1 137 6 = some (.bipush 9, ((0, 0), ([.int 9], []))) := (kT_137 6).trans rfl
theorem r_137_8 : xT.1 137 8 = some (.if_icmp .gt 7, ((15, 0), ([], []))) := (kT_137 8).trans rfl
theorem r_137_11 : xT.1 137 11 = some (.iconst 1, ((0, 0), ([.int 1], []))) := (kT_137 11).trans rfl
theorem r_137_12 : xT.1 137 12 = some (.goto 4, ((16, 0), ([], []))) := (kT_137 12).trans rfl
theorem r_137_15 : xT.1 137 15 = some (.iconst 0, ((0, 0), ([.int 0], []))) := (kT_137 15).trans rfl
theorem r_137_16 : xT.1 137 16 = some (.ireturn, ((0, 0), ([], []))) := (kT_137 16).trans rfl
theorem kT_138 (pc : Nat) : xT.1 138 pc = xfind k_138 pc := rfl
theorem r_138_0 : xT.1 138 0 = some (.iload_n 0, ((0, 0), ([], []))) := (kT_138 0).trans rfl
theorem r_138_1 : xT.1 138 1 = some (.invokestatic 392, ((137, 1), ([], [1]))) := (kT_138 1).trans rfl
theorem r_138_4 : xT.1 138 4 = some (.ifCond .ne 14, ((18, 0), ([], []))) := (kT_138 4).trans rfl
theorem r_138_7 : xT.1 138 7 = some (.new 203, ((1, 0), ([], [7]))) := (kT_138 7).trans rfl
theorem r_138_18 : xT.1 138 18 = some (.return_, ((0, 0), ([], []))) := (kT_138 18).trans rfl
theorem kT_139 (pc : Nat) : xT.1 139 pc = xfind k_139 pc := rfl
theorem r_139_0 : xT.1 139 0 = some (.aload_n 0, ((0, 0), ([], []))) := (kT_139 0).trans rfl
theorem r_139_1 : xT.1 139 1 = some (.getfield 10, ((8, 0), ([], []))) := (kT_139 1).trans rfl
theorem r_139_4 : xT.1 139 4 = some (.iload_n 1, ((0, 0), ([], []))) := (kT_139 4).trans rfl
theorem r_139_5 : xT.1 139 5 = some (.invokevirtual 397, ((12, 2), ([], [0]))) := (kT_139 5).trans rfl
theorem r_139_8 : xT.1 139 8 = some (.ifCond .ne 14, ((22, 0), ([], []))) := (kT_139 8).trans rfl
theorem r_139_11 : xT.1 139 11 = some (.new 163, ((2, 0), ([], [7]))) := (kT_139 11).trans rfl
theorem r_139_22 : xT.1 139 22 = some (.aload_n 0, ((0, 0), ([], []))) := (kT_139 22).trans rfl
theorem r_139_23 : xT.1 139 23 = some (.getfield 10, ((8, 0), ([], []))) := (kT_139 23).trans rfl
theorem r_139_26 : xT.1 139 26 = some (.getfield 400, ((1, 0), ([], []))) := (kT_139 26).trans rfl
theorem r_139_29 : xT.1 139 29 = some (.iload_n 1, ((0, 0), ([], []))) := (kT_139 29).trans rfl
theorem r_139_30 : xT.1 139 30 = some (.aaload, ((0, 0), ([], []))) := (kT_139 30).trans rfl
theorem r_139_31 : xT.1 139 31 = some (.areturn, ((0, 0), ([], []))) := (kT_139 31).trans rfl
theorem kT_140 (pc : Nat) : xT.1 140 pc = xfind k_140 pc := rfl
theorem r_140_0 : xT.1 140 0 = some (.aload_n 0, ((0, 0), ([], []))) := (kT_140 0).trans rfl
theorem r_140_1 : xT.1 140 1 = some (.getfield 10, ((8, 0), ([], []))) := (kT_140 1).trans rfl
theorem r_140_4 : xT.1 140 4 = some (.iload_n 1, ((0, 0), ([], []))) := (kT_140 4).trans rfl
theorem r_140_5 : xT.1 140 5 = some (.invokevirtual 148, ((13, 2), ([], [0]))) := (kT_140 5).trans rfl
theorem r_140_8 : xT.1 140 8 = some (.istore_n 2, ((0, 0), ([], []))) := (kT_140 8).trans rfl
theorem r_140_9 : xT.1 140 9 = some (.iload_n 2, ((0, 0), ([], []))) := (kT_140 9).trans rfl
theorem r_140_10 : xT.1 140 10 = some (.iconst (-1), ((0, 0), ([.int (-1)], []))) := (kT_140 10).trans rfl
theorem r_140_11 : xT.1 140 11 = some (.if_icmp .ne 13, ((24, 0), ([], []))) := (kT_140 11).trans rfl
theorem r_140_14 : xT.1 140 14 = some (.new 132, ((5, 0), ([], [7]))) := (kT_140 14).trans rfl
theorem r_140_24 : xT.1 140 24 = some (.aload_n 0, ((0, 0), ([], []))) := (kT_140 24).trans rfl
theorem r_140_25 : xT.1 140 25 = some (.getfield 10, ((8, 0), ([], []))) := (kT_140 25).trans rfl
theorem r_140_28 : xT.1 140 28 = some (.getfield 139, ((1, 1), ([], []))) := (kT_140 28).trans rfl
theorem r_140_31 : xT.1 140 31 = some (.iload_n 2, ((0, 0), ([], []))) := (kT_140 31).trans rfl
theorem r_140_32 : xT.1 140 32 = some (.aaload, ((0, 0), ([], []))) := (kT_140 32).trans rfl
theorem r_140_33 : xT.1 140 33 = some (.areturn, ((0, 0), ([], []))) := (kT_140 33).trans rfl
theorem kT_141 (pc : Nat) : xT.1 141 pc = xfind k_141 pc := rfl
theorem r_141_0 : xT.1 141 0 = some (.aload_n 0, ((0, 0), ([], []))) := (kT_141 0).trans rfl
theorem r_141_1 : xT.1 141 1 = some (.iload_n 1, ((0, 0), ([], []))) := (kT_141 1).trans rfl
theorem r_141_2 : xT.1 141 2 = some (.invokevirtual 153, ((140, 2), ([], [0]))) := (kT_141 2).trans rfl
theorem r_141_5 : xT.1 141 5 = some (.astore_n 2, ((0, 0), ([], []))) := (kT_141 5).trans rfl
theorem r_141_6 : xT.1 141 6 = some (.aload_n 2, ((0, 0), ([], []))) := (kT_141 6).trans rfl
theorem r_141_7 : xT.1 141 7 = some (.getfield 160, ((7, 3), ([], []))) := (kT_141 7).trans rfl
theorem r_141_10 : xT.1 141 10 = some (.ifCond .ne 14, ((24, 0), ([], []))) := (kT_141 10).trans rfl
theorem r_141_13 : xT.1 141 13 = some (.new 132, ((5, 0), ([], [7]))) := (kT_141 13).trans rfl
theorem r_141_24 : xT.1 141 24 = some (.aload_n 2, ((0, 0), ([], []))) := (kT_141 24).trans rfl
theorem r_141_25 : xT.1 141 25 = some (.areturn, ((0, 0), ([], []))) := (kT_141 25).trans rfl
theorem kT_142 (pc : Nat) : xT.1 142 pc = xfind k_142 pc := rfl
theorem r_142_0 : xT.1 142 0 = some (.aload_n 0, ((0, 0), ([], []))) := (kT_142 0).trans rfl
theorem r_142_1 : xT.1 142 1 = some (.iload_n 1, ((0, 0), ([], []))) := (kT_142 1).trans rfl
theorem r_142_2 : xT.1 142 2 = some (.invokevirtual 111, ((139, 2), ([], [0]))) := (kT_142 2).trans rfl
theorem r_142_5 : xT.1 142 5 = some (.pop, ((0, 0), ([], []))) := (kT_142 5).trans rfl
theorem r_142_6 : xT.1 142 6 = some (.aload_n 0, ((0, 0), ([], []))) := (kT_142 6).trans rfl
theorem r_142_7 : xT.1 142 7 = some (.iload_n 2, ((0, 0), ([], []))) := (kT_142 7).trans rfl
theorem r_142_8 : xT.1 142 8 = some (.invokevirtual 153, ((140, 2), ([], [0]))) := (kT_142 8).trans rfl
theorem r_142_11 : xT.1 142 11 = some (.astore_n 3, ((0, 0), ([], []))) := (kT_142 11).trans rfl
theorem r_142_12 : xT.1 142 12 = some (.aload_n 3, ((0, 0), ([], []))) := (kT_142 12).trans rfl
theorem r_142_13 : xT.1 142 13 = some (.iload_n 1, ((0, 0), ([], []))) := (kT_142 13).trans rfl
theorem r_142_14 : xT.1 142 14 = some (.invokevirtual 177, ((78, 2), ([], [0]))) := (kT_142 14).trans rfl
theorem r_142_17 : xT.1 142 17 = some (.istore 4, ((0, 0), ([], []))) := (kT_142 17).trans rfl
theorem r_142_19 : xT.1 142 19 = some (.iload 4, ((0, 0), ([], []))) := (kT_142 19).trans rfl
theorem r_142_21 : xT.1 142 21 = some (.iconst (-1), ((0, 0), ([.int (-1)], []))) := (kT_142 21).trans rfl
theorem r_142_22 : xT.1 142 22 = some (.if_icmp .ne 14, ((36, 0), ([], []))) := (kT_142 22).trans rfl
theorem r_142_25 : xT.1 142 25 = some (.new 132, ((5, 0), ([], [7]))) := (kT_142 25).trans rfl
theorem r_142_36 : xT.1 142 36 = some (.aload_n 3, ((0, 0), ([], []))) := (kT_142 36).trans rfl
theorem r_142_37 : xT.1 142 37 = some (.getfield 168, ((7, 0), ([], []))) := (kT_142 37).trans rfl
theorem r_142_40 : xT.1 142 40 = some (.iload 4, ((0, 0), ([], []))) := (kT_142 40).trans rfl
theorem r_142_42 : xT.1 142 42 = some (.aaload, ((0, 0), ([], []))) := (kT_142 42).trans rfl
theorem r_142_43 : xT.1 142 43 = some (.areturn, ((0, 0), ([], []))) := (kT_142 43).trans rfl
theorem kT_143 (pc : Nat) : xT.1 143 pc = xfind k_143 pc := rfl
theorem r_143_0 : xT.1 143 0 = some (.iconst 0, ((0, 0), ([.int 0], []))) := (kT_143 0).trans rfl
theorem r_143_1 : xT.1 143 1 = some (.istore_n 1, ((0, 0), ([], []))) := (kT_143 1).trans rfl
theorem r_143_2 : xT.1 143 2 = some (.iload_n 1, ((0, 0), ([], []))) := (kT_143 2).trans rfl
theorem r_143_3 : xT.1 143 3 = some (.aload_n 0, ((0, 0), ([], []))) := (kT_143 3).trans rfl
theorem r_143_4 : xT.1 143 4 = some (.getfield 10, ((8, 0), ([], []))) := (kT_143 4).trans rfl
theorem r_143_7 : xT.1 143 7 = some (.getfield 129, ((1, 5), ([], []))) := (kT_143 7).trans rfl
theorem r_143_10 : xT.1 143 10 = some (.if_icmp .ge 40, ((50, 0), ([], []))) := (kT_143 10).trans rfl
theorem r_143_13 : xT.1 143 13 = some (.aload_n 0, ((0, 0), ([], []))) := (kT_143 13).trans rfl
theorem r_143_14 : xT.1 143 14 = some (.getfield 10, ((8, 0), ([], []))) := (kT_143 14).trans rfl
theorem r_143_17 : xT.1 143 17 = some (.getfield 139, ((1, 1), ([], []))) := (kT_143 17).trans rfl
theorem r_143_20 : xT.1 143 20 = some (.iload_n 1, ((0, 0), ([], []))) := (kT_143 20).trans rfl
theorem r_143_21 : xT.1 143 21 = some (.aaload, ((0, 0), ([], []))) := (kT_143 21).trans rfl
theorem r_143_22 : xT.1 143 22 = some (.astore_n 2, ((0, 0), ([], []))) := (kT_143 22).trans rfl
theorem r_143_23 : xT.1 143 23 = some (.aload_n 0, ((0, 0), ([], []))) := (kT_143 23).trans rfl
theorem r_143_24 : xT.1 143 24 = some (.getfield 29, ((8, 3), ([], []))) := (kT_143 24).trans rfl
theorem r_143_27 : xT.1 143 27 = some (.aload_n 2, ((0, 0), ([], []))) := (kT_143 27).trans rfl
theorem r_143_28 : xT.1 143 28 = some (.invokevirtual 214, ((49, 2), ([], [0]))) := (kT_143 28).trans rfl
theorem r_143_31 : xT.1 143 31 = some (.aload_n 0, ((0, 0), ([], []))) := (kT_143 31).trans rfl
theorem r_143_32 : xT.1 143 32 = some (.getfield 29, ((8, 3), ([], []))) := (kT_143 32).trans rfl
theorem r_143_35 : xT.1 143 35 = some (.aload_n 2, ((0, 0), ([], []))) := (kT_143 35).trans rfl
theorem r_143_36 : xT.1 143 36 = some (.invokevirtual 218, ((51, 2), ([], [0]))) := (kT_143 36).trans rfl
theorem r_143_39 : xT.1 143 39 = some (.if_icmp .eq 5, ((44, 0), ([], []))) := (kT_143 39).trans rfl
theorem r_143_42 : xT.1 143 42 = some (.iconst 0, ((0, 0), ([.int 0], []))) := (kT_143 42).trans rfl
theorem r_143_43 : xT.1 143 43 = some (.ireturn, ((0, 0), ([], []))) := (kT_143 43).trans rfl
theorem r_143_44 : xT.1 143 44 = some (.iinc 1 1, ((0, 0), ([.int (1)], []))) := (kT_143 44).trans rfl
theorem r_143_47 : xT.1 143 47 = some (.goto (-45), ((2, 0), ([], []))) := (kT_143 47).trans rfl
theorem r_143_50 : xT.1 143 50 = some (.iconst 1, ((0, 0), ([.int 1], []))) := (kT_143 50).trans rfl
theorem r_143_51 : xT.1 143 51 = some (.ireturn, ((0, 0), ([], []))) := (kT_143 51).trans rfl
theorem kT_144 (pc : Nat) : xT.1 144 pc = xfind k_144 pc := rfl
theorem r_144_0 : xT.1 144 0 = some (.aload_n 0, ((0, 0), ([], []))) := (kT_144 0).trans rfl
theorem r_144_1 : xT.1 144 1 = some (.getfield 36, ((8, 4), ([], []))) := (kT_144 1).trans rfl
theorem r_144_4 : xT.1 144 4 = some (.invokevirtual 408, ((39, 1), ([], [0]))) := (kT_144 4).trans rfl
theorem r_144_7 : xT.1 144 7 = some (.iconst 0, ((0, 0), ([.int 0], []))) := (kT_144 7).trans rfl
theorem r_144_8 : xT.1 144 8 = some (.istore_n 2, ((0, 0), ([], []))) := (kT_144 8).trans rfl
theorem r_144_9 : xT.1 144 9 = some (.iload_n 2, ((0, 0), ([], []))) := (kT_144 9).trans rfl
theorem r_144_10 : xT.1 144 10 = some (.iload_n 1, ((0, 0), ([], []))) := (kT_144 10).trans rfl
theorem r_144_11 : xT.1 144 11 = some (.if_icmp .ge 49, ((60, 0), ([], []))) := (kT_144 11).trans rfl
theorem r_144_14 : xT.1 144 14 = some (.aload_n 0, ((0, 0), ([], []))) := (kT_144 14).trans rfl
theorem r_144_15 : xT.1 144 15 = some (.getfield 36, ((8, 4), ([], []))) := (kT_144 15).trans rfl
theorem r_144_18 : xT.1 144 18 = some (.invokevirtual 411, ((43, 1), ([], [0]))) := (kT_144 18).trans rfl
theorem r_144_21 : xT.1 144 21 = some (.astore_n 3, ((0, 0), ([], []))) := (kT_144 21).trans rfl
theorem r_144_22 : xT.1 144 22 = some (.aload_n 3, ((0, 0), ([], []))) := (kT_144 22).trans rfl
theorem r_144_23 : xT.1 144 23 = some (.ifnull 14, ((37, 0), ([], []))) := (kT_144 23).trans rfl
theorem r_144_26 : xT.1 144 26 = some (.aload_n 0, ((0, 0), ([], []))) := (kT_144 26).trans rfl
theorem r_144_27 : xT.1 144 27 = some (.aload_n 3, ((0, 0), ([], []))) := (kT_144 27).trans rfl
theorem r_144_28 : xT.1 144 28 = some (.invokevirtual 415, ((145, 2), ([], [0]))) := (kT_144 28).trans rfl
theorem r_144_31 : xT.1 144 31 = some (.getstatic 419, ((0, 0), ([.ref 0], []))) := (kT_144 31).trans rfl
theorem r_144_34 : xT.1 144 34 = some (.if_acmp .eq 5, ((39, 0), ([], []))) := (kT_144 34).trans rfl
theorem r_144_37 : xT.1 144 37 = some (.iload_n 2, ((0, 0), ([], []))) := (kT_144 37).trans rfl
theorem r_144_38 : xT.1 144 38 = some (.ireturn, ((0, 0), ([], []))) := (kT_144 38).trans rfl
theorem r_144_39 : xT.1 144 39 = some (.aload_n 0, ((0, 0), ([], []))) := (kT_144 39).trans rfl
theorem r_144_40 : xT.1 144 40 = some (.aload_n 3, ((0, 0), ([], []))) := (kT_144 40).trans rfl
theorem r_144_41 : xT.1 144 41 = some (.invokevirtual 423, ((146, 2), ([], [0]))) := (kT_144 41).trans rfl
theorem r_144_44 : xT.1 144 44 = some (.aload_n 0, ((0, 0), ([], []))) := (kT_144 44).trans rfl
theorem r_144_45 : xT.1 144 45 = some (.getfield 36, ((8, 4), ([], []))) := (kT_144 45).trans rfl
theorem r_144_48 : xT.1 144 48 = some (.bipush 59, ((0, 0), ([.int 59], []))) := (kT_144 48).trans rfl
theorem r_144_50 : xT.1 144 50 = some (.invokevirtual 427, ((44, 2), ([], [0]))) := (kT_144 50).trans rfl
theorem r_144_53 : xT.1 144 53 = some (.pop, ((0, 0), ([], []))) := (kT_144 53).trans rfl
theorem r_144_54 : xT.1 144 54 = some (.iinc 2 1, ((0, 0), ([.int (1)], []))) := (kT_144 54).trans rfl
theorem r_144_57 : xT.1 144 57 = some (.goto (-48), ((9, 0), ([], []))) := (kT_144 57).trans rfl
theorem r_144_60 : xT.1 144 60 = some (.iconst (-1), ((0, 0), ([.int (-1)], []))) := (kT_144 60).trans rfl
theorem r_144_61 : xT.1 144 61 = some (.ireturn, ((0, 0), ([], []))) := (kT_144 61).trans rfl
theorem kT_145 (pc : Nat) : xT.1 145 pc = xfind k_145 pc := rfl
theorem r_145_0 : xT.1 145 0 = some (.getstatic 431, ((0, 0), ([.ref 14], []))) := (kT_145 0).trans rfl
theorem r_145_3 : xT.1 145 3 = some (.aload_n 1, ((0, 0), ([], []))) := (kT_145 3).trans rfl
theorem r_145_4 : xT.1 145 4 = some (.invokevirtual 434, ((2, 1), ([], [4]))) := (kT_145 4).trans rfl
theorem r_145_7 : xT.1 145 7 = some (.iaload, ((0, 0), ([], []))) := (kT_145 7).trans rfl
theorem r_145_8 : xT.1 145 8 = some (.tableswitch 140 1 5 #[36, 44, 60, 116, 132], ((148, 36), ([], [44, 52, 68, 124, 140]))) := (kT_145 8).trans rfl
theorem r_145_44 : xT.1 145 44 = some (.aload_n 0, ((0, 0), ([], []))) := (kT_145 44).trans rfl
theorem r_145_45 : xT.1 145 45 = some (.getfield 10, ((8, 0), ([], []))) := (kT_145 45).trans rfl
theorem r_145_48 : xT.1 145 48 = some (.invokevirtual 58, ((14, 1), ([], [0]))) := (kT_145 48).trans rfl
theorem r_145_51 : xT.1 145 51 = some (.areturn, ((0, 0), ([], []))) := (kT_145 51).trans rfl
theorem r_145_52 : xT.1 145 52 = some (.aload_n 0, ((0, 0), ([], []))) := (kT_145 52).trans rfl
theorem r_145_53 : xT.1 145 53 = some (.getfield 10, ((8, 0), ([], []))) := (kT_145 53).trans rfl
theorem r_145_56 : xT.1 145 56 = some (.aload_n 0, ((0, 0), ([], []))) := (kT_145 56).trans rfl
theorem r_145_57 : xT.1 145 57 = some (.getfield 36, ((8, 4), ([], []))) := (kT_145 57).trans rfl
theorem r_145_60 : xT.1 145 60 = some (.iconst 0, ((0, 0), ([.int 0], []))) := (kT_145 60).trans rfl
theorem r_145_61 : xT.1 145 61 = some (.invokevirtual 437, ((41, 2), ([], [0]))) := (kT_145 61).trans rfl
theorem r_145_64 : xT.1 145 64 = some (.invokevirtual 74, ((16, 2), ([], [0]))) := (kT_145 64).trans rfl
theorem r_145_67 : xT.1 145 67 = some (.areturn, ((0, 0), ([], []))) := (kT_145 67).trans rfl
theorem r_145_68 : xT.1 145 68 = some (.aload_n 0, ((0, 0), ([], []))) := (kT_145 68).trans rfl
theorem r_145_69 : xT.1 145 69 = some (.getfield 10, ((8, 0), ([], []))) := (kT_145 69).trans rfl
theorem r_145_72 : xT.1 145 72 = some (.aload_n 0, ((0, 0), ([], []))) := (kT_145 72).trans rfl
theorem r_145_73 : xT.1 145 73 = some (.getfield 36, ((8, 4), ([], []))) := (kT_145 73).trans rfl
theorem r_145_76 : xT.1 145 76 = some (.iconst 0, ((0, 0), ([.int 0], []))) := (kT_145 76).trans rfl
theorem r_145_77 : xT.1 145 77 = some (.invokevirtual 437, ((41, 2), ([], [0]))) := (kT_145 77).trans rfl
theorem r_145_80 : xT.1 145 80 = some (.aload_n 0, ((0, 0), ([], []))) := (kT_145 80).trans rfl
theorem r_145_81 : xT.1 145 81 = some (.getfield 36, ((8, 4), ([], []))) := (kT_145 81).trans rfl
theorem r_145_84 : xT.1 145 84 = some (.iconst 1, ((0, 0), ([.int 1], []))) := (kT_145 84).trans rfl
theorem r_145_85 : xT.1 145 85 = some (.invokevirtual 437, ((41, 2), ([], [0]))) := (kT_145 85).trans rfl
theorem r_145_88 : xT.1 145 88 = some (.aload_n 0, ((0, 0), ([], []))) := (kT_145 88).trans rfl
theorem r_145_89 : xT.1 145 89 = some (.getfield 36, ((8, 4), ([], []))) := (kT_145 89).trans rfl
theorem r_145_92 : xT.1 145 92 = some (.iconst 2, ((0, 0), ([.int 2], []))) := (kT_145 92).trans rfl
theorem r_145_93 : xT.1 145 93 = some (.invokevirtual 437, ((41, 2), ([], [0]))) := (kT_145 93).trans rfl
theorem r_145_96 : xT.1 145 96 = some (.aload_n 0, ((0, 0), ([], []))) := (kT_145 96).trans rfl
theorem r_145_97 : xT.1 145 97 = some (.getfield 36, ((8, 4), ([], []))) := (kT_145 97).trans rfl
theorem r_145_100 : xT.1 145 100 = some (.iconst 3, ((0, 0), ([.int 3], []))) := (kT_145 100).trans rfl
theorem r_145_101 : xT.1 145 101 = some (.invokevirtual 437, ((41, 2), ([], [0]))) := (kT_145 101).trans rfl
theorem r_145_104 : xT.1 145 104 = some (.aload_n 0, ((0, 0), ([], []))) := (kT_145 104).trans rfl
theorem r_145_105 : xT.1 145 105 = some (.getfield 36, ((8, 4), ([], []))) := (kT_145 105).trans rfl
theorem r_145_108 : xT.1 145 108 = some (.iconst 4, ((0, 0), ([.int 4], []))) := (kT_145 108).trans rfl
theorem r_145_109 : xT.1 145 109 = some (.invokevirtual 437, ((41, 2), ([], [0]))) := (kT_145 109).trans rfl
theorem r_145_112 : xT.1 145 112 = some (.aload_n 0, ((0, 0), ([], []))) := (kT_145 112).trans rfl
theorem r_145_113 : xT.1 145 113 = some (.getfield 36, ((8, 4), ([], []))) := (kT_145 113).trans rfl
theorem r_145_116 : xT.1 145 116 = some (.iconst 5, ((0, 0), ([.int 5], []))) := (kT_145 116).trans rfl
theorem r_145_117 : xT.1 145 117 = some (.invokevirtual 437, ((41, 2), ([], [0]))) := (kT_145 117).trans rfl
theorem r_145_120 : xT.1 145 120 = some (.invokevirtual 82, ((18, 7), ([], [0]))) := (kT_145 120).trans rfl
theorem r_145_123 : xT.1 145 123 = some (.areturn, ((0, 0), ([], []))) := (kT_145 123).trans rfl
theorem r_145_124 : xT.1 145 124 = some (.aload_n 0, ((0, 0), ([], []))) := (kT_145 124).trans rfl
theorem r_145_125 : xT.1 145 125 = some (.getfield 10, ((8, 0), ([], []))) := (kT_145 125).trans rfl
theorem r_145_128 : xT.1 145 128 = some (.aload_n 0, ((0, 0), ([], []))) := (kT_145 128).trans rfl
theorem r_145_129 : xT.1 145 129 = some (.getfield 36, ((8, 4), ([], []))) := (kT_145 129).trans rfl
theorem r_145_132 : xT.1 145 132 = some (.iconst 0, ((0, 0), ([.int 0], []))) := (kT_145 132).trans rfl
theorem r_145_133 : xT.1 145 133 = some (.invokevirtual 437, ((41, 2), ([], [0]))) := (kT_145 133).trans rfl
theorem r_145_136 : xT.1 145 136 = some (.invokevirtual 90, ((20, 2), ([], [0]))) := (kT_145 136).trans rfl
theorem r_145_139 : xT.1 145 139 = some (.areturn, ((0, 0), ([], []))) := (kT_145 139).trans rfl
theorem r_145_140 : xT.1 145 140 = some (.aload_n 0, ((0, 0), ([], []))) := (kT_145 140).trans rfl
theorem r_145_141 : xT.1 145 141 = some (.getfield 10, ((8, 0), ([], []))) := (kT_145 141).trans rfl
theorem r_145_144 : xT.1 145 144 = some (.invokevirtual 96, ((25, 1), ([], [0]))) := (kT_145 144).trans rfl
theorem r_145_147 : xT.1 145 147 = some (.areturn, ((0, 0), ([], []))) := (kT_145 147).trans rfl
theorem r_145_148 : xT.1 145 148 = some (.aload_n 0, ((0, 0), ([], []))) := (kT_145 148).trans rfl
theorem r_145_149 : xT.1 145 149 = some (.getfield 10, ((8, 0), ([], []))) := (kT_145 149).trans rfl
theorem r_145_152 : xT.1 145 152 = some (.aload_n 0, ((0, 0), ([], []))) := (kT_145 152).trans rfl
theorem r_145_153 : xT.1 145 153 = some (.getfield 36, ((8, 4), ([], []))) := (kT_145 153).trans rfl
theorem r_145_156 : xT.1 145 156 = some (.iconst 0, ((0, 0), ([.int 0], []))) := (kT_145 156).trans rfl
theorem r_145_157 : xT.1 145 157 = some (.invokevirtual 437, ((41, 2), ([], [0]))) := (kT_145 157).trans rfl
theorem r_145_160 : xT.1 145 160 = some (.invokevirtual 102, ((27, 2), ([], [0]))) := (kT_145 160).trans rfl
theorem r_145_163 : xT.1 145 163 = some (.areturn, ((0, 0), ([], []))) := (kT_145 163).trans rfl
theorem kT_146 (pc : Nat) : xT.1 146 pc = xfind k_146 pc := rfl
theorem r_146_0 : xT.1 146 0 = some (.getstatic 431, ((0, 0), ([.ref 14], []))) := (kT_146 0).trans rfl
theorem r_146_3 : xT.1 146 3 = some (.aload_n 1, ((0, 0), ([], []))) := (kT_146 3).trans rfl
theorem r_146_4 : xT.1 146 4 = some (.invokevirtual 434, ((2, 1), ([], [4]))) := (kT_146 4).trans rfl
theorem r_146_7 : xT.1 146 7 = some (.iaload, ((0, 0), ([], []))) := (kT_146 7).trans rfl
theorem r_146_8 : xT.1 146 8 = some (.tableswitch 155 1 5 #[36, 47, 66, 125, 144], ((163, 36), ([], [44, 55, 74, 133, 152]))) := (kT_146 8).trans rfl
theorem r_146_44 : xT.1 146 44 = some (.aload_n 0, ((0, 0), ([], []))) := (kT_146 44).trans rfl
theorem r_146_45 : xT.1 146 45 = some (.getfield 10, ((8, 0), ([], []))) := (kT_146 45).trans rfl
theorem r_146_48 : xT.1 146 48 = some (.invokevirtual 70, ((15, 1), ([], [0]))) := (kT_146 48).trans rfl
theorem r_146_51 : xT.1 146 51 = some (.pop, ((0, 0), ([], []))) := (kT_146 51).trans rfl
theorem r_146_52 : xT.1 146 52 = some (.goto 127, ((179, 0), ([], []))) := (kT_146 52).trans rfl
theorem r_146_55 : xT.1 146 55 = some (.aload_n 0, ((0, 0), ([], []))) := (kT_146 55).trans rfl
theorem r_146_56 : xT.1 146 56 = some (.getfield 10, ((8, 0), ([], []))) := (kT_146 56).trans rfl
theorem r_146_59 : xT.1 146 59 = some (.aload_n 0, ((0, 0), ([], []))) := (kT_146 59).trans rfl
theorem r_146_60 : xT.1 146 60 = some (.getfield 36, ((8, 4), ([], []))) := (kT_146 60).trans rfl
theorem r_146_63 : xT.1 146 63 = some (.iconst 0, ((0, 0), ([.int 0], []))) := (kT_146 63).trans rfl
theorem r_146_64 : xT.1 146 64 = some (.invokevirtual 437, ((41, 2), ([], [0]))) := (kT_146 64).trans rfl
theorem r_146_67 : xT.1 146 67 = some (.invokevirtual 78, ((17, 2), ([], [0]))) := (kT_146 67).trans rfl
theorem r_146_70 : xT.1 146 70 = some (.pop, ((0, 0), ([], []))) := (kT_146 70).trans rfl
theorem r_146_71 : xT.1 146 71 = some (.goto 108, ((179, 0), ([], []))) := (kT_146 71).trans rfl
theorem r_146_74 : xT.1 146 74 = some (.aload_n 0, ((0, 0), ([], []))) := (kT_146 74).trans rfl
theorem r_146_75 : xT.1 146 75 = some (.getfield 10, ((8, 0), ([], []))) := (kT_146 75).trans rfl
theorem r_146_78 : xT.1 146 78 = some (.aload_n 0, ((0, 0), ([], []))) := (kT_146 78).trans rfl
theorem r_146_79 : xT.1 146 79 = some (.getfield 36, ((8, 4), ([], []))) := (kT_146 79).trans rfl
theorem r_146_82 : xT.1 146 82 = some (.iconst 0, ((0, 0), ([.int 0], []))) := (kT_146 82).trans rfl
theorem r_146_83 : xT.1 146 83 = some (.invokevirtual 437, ((41, 2), ([], [0]))) := (kT_146 83).trans rfl
theorem r_146_86 : xT.1 146 86 = some (.aload_n 0, ((0, 0), ([], []))) := (kT_146 86).trans rfl
theorem r_146_87 : xT.1 146 87 = some (.getfield 36, ((8, 4), ([], []))) := (kT_146 87).trans rfl
theorem r_146_90 : xT.1 146 90 = some (.iconst 1, ((0, 0), ([.int 1], []))) := (kT_146 90).trans rfl
theorem r_146_91 : xT.1 146 91 = some (.invokevirtual 437, ((41, 2), ([], [0]))) := (kT_146 91).trans rfl
theorem r_146_94 : xT.1 146 94 = some (.aload_n 0, ((0, 0), ([], []))) := (kT_146 94).trans rfl
theorem r_146_95 : xT.1 146 95 = some (.getfield 36, ((8, 4), ([], []))) := (kT_146 95).trans rfl
theorem r_146_98 : xT.1 146 98 = some (.iconst 2, ((0, 0), ([.int 2], []))) := (kT_146 98).trans rfl
theorem r_146_99 : xT.1 146 99 = some (.invokevirtual 437, ((41, 2), ([], [0]))) := (kT_146 99).trans rfl
theorem r_146_102 : xT.1 146 102 = some (.aload_n 0, ((0, 0), ([], []))) := (kT_146 102).trans rfl
theorem r_146_103 : xT.1 146 103 = some (.getfield 36, ((8, 4), ([], []))) := (kT_146 103).trans rfl
theorem r_146_106 : xT.1 146 106 = some (.iconst 3, ((0, 0), ([.int 3], []))) := (kT_146 106).trans rfl
theorem r_146_107 : xT.1 146 107 = some (.invokevirtual 437, ((41, 2), ([], [0]))) := (kT_146 107).trans rfl
theorem r_146_110 : xT.1 146 110 = some (.aload_n 0, ((0, 0), ([], []))) := (kT_146 110).trans rfl
theorem r_146_111 : xT.1 146 111 = some (.getfield 36, ((8, 4), ([], []))) := (kT_146 111).trans rfl
theorem r_146_114 : xT.1 146 114 = some (.iconst 4, ((0, 0), ([.int 4], []))) := (kT_146 114).trans rfl
theorem r_146_115 : xT.1 146 115 = some (.invokevirtual 437, ((41, 2), ([], [0]))) := (kT_146 115).trans rfl
theorem r_146_118 : xT.1 146 118 = some (.aload_n 0, ((0, 0), ([], []))) := (kT_146 118).trans rfl
theorem r_146_119 : xT.1 146 119 = some (.getfield 36, ((8, 4), ([], []))) := (kT_146 119).trans rfl
theorem r_146_122 : xT.1 146 122 = some (.iconst 5, ((0, 0), ([.int 5], []))) := (kT_146 122).trans rfl
theorem r_146_123 : xT.1 146 123 = some (.invokevirtual 437, ((41, 2), ([], [0]))) := (kT_146 123).trans rfl
theorem r_146_126 : xT.1 146 126 = some (.invokevirtual 86, ((19, 7), ([], [0]))) := (kT_146 126).trans rfl
theorem r_146_129 : xT.1 146 129 = some (.pop, ((0, 0), ([], []))) := (kT_146 129).trans rfl
theorem r_146_130 : xT.1 146 130 = some (.goto 49, ((179, 0), ([], []))) := (kT_146 130).trans rfl
theorem r_146_133 : xT.1 146 133 = some (.aload_n 0, ((0, 0), ([], []))) := (kT_146 133).trans rfl
theorem r_146_134 : xT.1 146 134 = some (.getfield 10, ((8, 0), ([], []))) := (kT_146 134).trans rfl
theorem r_146_137 : xT.1 146 137 = some (.aload_n 0, ((0, 0), ([], []))) := (kT_146 137).trans rfl
theorem r_146_138 : xT.1 146 138 = some (.getfield 36, ((8, 4), ([], []))) := (kT_146 138).trans rfl
theorem r_146_141 : xT.1 146 141 = some (.iconst 0, ((0, 0), ([.int 0], []))) := (kT_146 141).trans rfl
theorem r_146_142 : xT.1 146 142 = some (.invokevirtual 437, ((41, 2), ([], [0]))) := (kT_146 142).trans rfl
theorem r_146_145 : xT.1 146 145 = some (.invokevirtual 93, ((21, 2), ([], [0]))) := (kT_146 145).trans rfl
theorem r_146_148 : xT.1 146 148 = some (.pop, ((0, 0), ([], []))) := (kT_146 148).trans rfl
theorem r_146_149 : xT.1 146 149 = some (.goto 30, ((179, 0), ([], []))) := (kT_146 149).trans rfl
theorem r_146_152 : xT.1 146 152 = some (.aload_n 0, ((0, 0), ([], []))) := (kT_146 152).trans rfl
theorem r_146_153 : xT.1 146 153 = some (.getfield 10, ((8, 0), ([], []))) := (kT_146 153).trans rfl
theorem r_146_156 : xT.1 146 156 = some (.invokevirtual 99, ((26, 1), ([], [0]))) := (kT_146 156).trans rfl
theorem r_146_159 : xT.1 146 159 = some (.pop, ((0, 0), ([], []))) := (kT_146 159).trans rfl
theorem r_146_160 : xT.1 146 160 = some (.goto 19, ((179, 0), ([], []))) := (kT_146 160).trans rfl
theorem r_146_163 : xT.1 146 163 = some (.aload_n 0, ((0, 0), ([], []))) := (kT_146 163).trans rfl
theorem r_146_164 : xT.1 146 164 = some (.getfield 10, ((8, 0), ([], []))) := (kT_146 164).trans rfl
theorem r_146_167 : xT.1 146 167 = some (.aload_n 0, ((0, 0), ([], []))) := (kT_146 167).trans rfl
theorem r_146_168 : xT.1 146 168 = some (.getfield 36, ((8, 4), ([], []))) := (kT_146 168).trans rfl
theorem r_146_171 : xT.1 146 171 = some (.iconst 0, ((0, 0), ([.int 0], []))) := (kT_146 171).trans rfl
theorem r_146_172 : xT.1 146 172 = some (.invokevirtual 437, ((41, 2), ([], [0]))) := (kT_146 172).trans rfl
theorem r_146_175 : xT.1 146 175 = some (.invokevirtual 105, ((28, 2), ([], [0]))) := (kT_146 175).trans rfl
theorem r_146_178 : xT.1 146 178 = some (.pop, ((0, 0), ([], []))) := (kT_146 178).trans rfl
theorem r_146_179 : xT.1 146 179 = some (.return_, ((0, 0), ([], []))) := (kT_146 179).trans rfl
theorem kT_147 (pc : Nat) : xT.1 147 pc = xfind k_147 pc := rfl
theorem r_147_0 : xT.1 147 0 = some (.aload_n 0, ((0, 0), ([], []))) := (kT_147 0).trans rfl
theorem r_147_1 : xT.1 147 1 = some (.getfield 43, ((8, 5), ([], []))) := (kT_147 1).trans rfl
theorem r_147_4 : xT.1 147 4 = some (.bipush 32, ((0, 0), ([.int 32], []))) := (kT_147 4).trans rfl
theorem r_147_6 : xT.1 147 6 = some (.invokevirtual 343, ((293, 2), ([], [0]))) := (kT_147 6).trans rfl
theorem r_147_9 : xT.1 147 9 = some (.aload_n 1, ((0, 0), ([], []))) := (kT_147 9).trans rfl
theorem r_147_10 : xT.1 147 10 = some (.getfield 172, ((4, 0), ([], []))) := (kT_147 10).trans rfl
theorem r_147_13 : xT.1 147 13 = some (.invokevirtual 346, ((294, 2), ([], [0]))) := (kT_147 13).trans rfl
theorem r_147_16 : xT.1 147 16 = some (.bipush 58, ((0, 0), ([.int 58], []))) := (kT_147 16).trans rfl
theorem r_147_18 : xT.1 147 18 = some (.invokevirtual 343, ((293, 2), ([], [0]))) := (kT_147 18).trans rfl
theorem r_147_21 : xT.1 147 21 = some (.aload_n 1, ((0, 0), ([], []))) := (kT_147 21).trans rfl
theorem r_147_22 : xT.1 147 22 = some (.getfield 184, ((4, 1), ([], []))) := (kT_147 22).trans rfl
theorem r_147_25 : xT.1 147 25 = some (.invokevirtual 346, ((294, 2), ([], [0]))) := (kT_147 25).trans rfl
theorem r_147_28 : xT.1 147 28 = some (.pop, ((0, 0), ([], []))) := (kT_147 28).trans rfl
theorem r_147_29 : xT.1 147 29 = some (.aload_n 0, ((0, 0), ([], []))) := (kT_147 29).trans rfl
theorem r_147_30 : xT.1 147 30 = some (.getfield 43, ((8, 5), ([], []))) := (kT_147 30).trans rfl
theorem r_147_33 : xT.1 147 33 = some (.bipush 45, ((0, 0), ([.int 45], []))) := (kT_147 33).trans rfl
theorem r_147_35 : xT.1 147 35 = some (.invokevirtual 343, ((293, 2), ([], [0]))) := (kT_147 35).trans rfl
theorem r_147_38 : xT.1 147 38 = some (.aload_n 1, ((0, 0), ([], []))) := (kT_147 38).trans rfl
theorem r_147_39 : xT.1 147 39 = some (.getfield 187, ((4, 2), ([], []))) := (kT_147 39).trans rfl
theorem r_147_42 : xT.1 147 42 = some (.invokevirtual 346, ((294, 2), ([], [0]))) := (kT_147 42).trans rfl
theorem r_147_45 : xT.1 147 45 = some (.bipush 99, ((0, 0), ([.int 99], []))) := (kT_147 45).trans rfl
theorem r_147_47 : xT.1 147 47 = some (.invokevirtual 343, ((293, 2), ([], [0]))) := (kT_147 47).trans rfl
theorem r_147_50 : xT.1 147 50 = some (.aload_n 1, ((0, 0), ([], []))) := (kT_147 50).trans rfl
theorem r_147_51 : xT.1 147 51 = some (.getfield 190, ((4, 3), ([], []))) := (kT_147 51).trans rfl
theorem r_147_54 : xT.1 147 54 = some (.invokevirtual 346, ((294, 2), ([], [0]))) := (kT_147 54).trans rfl
theorem r_147_57 : xT.1 147 57 = some (.pop, ((0, 0), ([], []))) := (kT_147 57).trans rfl
theorem r_147_58 : xT.1 147 58 = some (.return_, ((0, 0), ([], []))) := (kT_147 58).trans rfl
theorem kT_160 (pc : Nat) : xT.1 160 pc = xfind k_160 pc := rfl
theorem r_160_0 : xT.1 160 0 = some (.iload_n 1, ((0, 0), ([], []))) := (kT_160 0).trans rfl
theorem r_160_1 : xT.1 160 1 = some (.aload_n 0, ((0, 0), ([], []))) := (kT_160 1).trans rfl
theorem r_160_2 : xT.1 160 2 = some (.arraylength, ((0, 0), ([], []))) := (kT_160 2).trans rfl
theorem r_160_3 : xT.1 160 3 = some (.if_icmp .ge 9, ((12, 0), ([], []))) := (kT_160 3).trans rfl
theorem r_160_6 : xT.1 160 6 = some (.aload_n 0, ((0, 0), ([], []))) := (kT_160 6).trans rfl
theorem r_160_7 : xT.1 160 7 = some (.iload_n 1, ((0, 0), ([], []))) := (kT_160 7).trans rfl
theorem r_160_8 : xT.1 160 8 = some (.iaload, ((0, 0), ([], []))) := (kT_160 8).trans rfl
theorem r_160_9 : xT.1 160 9 = some (.goto 4, ((13, 0), ([], []))) := (kT_160 9).trans rfl
theorem r_160_12 : xT.1 160 12 = some (.iconst 0, ((0, 0), ([.int 0], []))) := (kT_160 12).trans rfl
theorem r_160_13 : xT.1 160 13 = some (.ireturn, ((0, 0), ([], []))) := (kT_160 13).trans rfl
theorem kT_161 (pc : Nat) : xT.1 161 pc = xfind k_161 pc := rfl
theorem r_161_0 : xT.1 161 0 = some (.iconst 0, ((0, 0), ([.int 0], []))) := (kT_161 0).trans rfl
theorem r_161_1 : xT.1 161 1 = some (.istore_n 2, ((0, 0), ([], []))) := (kT_161 1).trans rfl
theorem r_161_2 : xT.1 161 2 = some (.iload_n 2, ((0, 0), ([], []))) := (kT_161 2).trans rfl
theorem r_161_3 : xT.1 161 3 = some (.aload_n 1, ((0, 0), ([], []))) := (kT_161 3).trans rfl
theorem r_161_4 : xT.1 161 4 = some (.invokevirtual 7, ((312, 1), ([], [0]))) := (kT_161 4).trans rfl
theorem r_161_7 : xT.1 161 7 = some (.if_icmp .ge 19, ((26, 0), ([], []))) := (kT_161 7).trans rfl
theorem r_161_10 : xT.1 161 10 = some (.aload_n 0, ((0, 0), ([], []))) := (kT_161 10).trans rfl
theorem r_161_11 : xT.1 161 11 = some (.aload_n 1, ((0, 0), ([], []))) := (kT_161 11).trans rfl
theorem r_161_12 : xT.1 161 12 = some (.iload_n 2, ((0, 0), ([], []))) := (kT_161 12).trans rfl
theorem r_161_13 : xT.1 161 13 = some (.invokevirtual 13, ((313, 2), ([], [0]))) := (kT_161 13).trans rfl
theorem r_161_16 : xT.1 161 16 = some (.invokevirtual 17, ((125, 2), ([], [0]))) := (kT_161 16).trans rfl
theorem r_161_19 : xT.1 161 19 = some (.pop, ((0, 0), ([], []))) := (kT_161 19).trans rfl
theorem r_161_20 : xT.1 161 20 = some (.iinc 2 1, ((0, 0), ([.int (1)], []))) := (kT_161 20).trans rfl
theorem r_161_23 : xT.1 161 23 = some (.goto (-21), ((2, 0), ([], []))) := (kT_161 23).trans rfl
theorem r_161_26 : xT.1 161 26 = some (.return_, ((0, 0), ([], []))) := (kT_161 26).trans rfl
theorem kT_162 (pc : Nat) : xT.1 162 pc = xfind k_162 pc := rfl
set_option maxRecDepth 100000 in
theorem r_162_0 : xT.1 162 0 = some (.new 18, ((8, 9), ([.null, .null, .null, .null, .null, .null, .int 0, .int 0, .int 0], []))) := (kT_162 0).trans rfl
set_option maxRecDepth 100000 in
theorem r_162_3 : xT.1 162 3 = some (.dup, ((0, 0), ([], []))) := (kT_162 3).trans rfl
set_option maxRecDepth 100000 in
theorem r_162_4 : xT.1 162 4 = some (.invokespecial 23, ((83, 1), ([], [2]))) := (kT_162 4).trans rfl
set_option maxRecDepth 100000 in
theorem r_162_7 : xT.1 162 7 = some (.astore_n 1, ((0, 0), ([], []))) := (kT_162 7).trans rfl
set_option maxRecDepth 100000 in
theorem r_162_8 : xT.1 162 8 = some (.aload_n 0, ((0, 0), ([], []))) := (kT_162 8).trans rfl
set_option maxRecDepth 100000 in
theorem r_162_9 : xT.1 162 9 = some (.iconst 0, ((0, 0), ([.int 0], []))) := (kT_162 9).trans rfl
set_option maxRecDepth 100000 in
theorem r_162_10 : xT.1 162 10 = some (.invokestatic 24, ((160, 2), ([], [1]))) := (kT_162 10).trans rfl
set_option maxRecDepth 100000 in
theorem r_162_13 : xT.1 162 13 = some (.istore_n 2, ((0, 0), ([], []))) := (kT_162 13).trans rfl
set_option maxRecDepth 100000 in
theorem r_162_14 : xT.1 162 14 = some (.iconst 0, ((0, 0), ([.int 0], []))) := (kT_162 14).trans rfl
set_option maxRecDepth 100000 in
theorem r_162_15 : xT.1 162 15 = some (.istore_n 3, ((0, 0), ([], []))) := (kT_162 15).trans rfl
set_option maxRecDepth 100000 in
theorem r_162_16 : xT.1 162 16 = some (.iload_n 3, ((0, 0), ([], []))) := (kT_162 16).trans rfl
set_option maxRecDepth 100000 in
theorem r_162_17 : xT.1 162 17 = some (.iconst 2, ((0, 0), ([.int 2], []))) := (kT_162 17).trans rfl
set_option maxRecDepth 100000 in
theorem r_162_18 : xT.1 162 18 = some (.iload_n 2, ((0, 0), ([], []))) := (kT_162 18).trans rfl
set_option maxRecDepth 100000 in
theorem r_162_19 : xT.1 162 19 = some (.iconst 3, ((0, 0), ([.int 3], []))) := (kT_162 19).trans rfl
set_option maxRecDepth 100000 in
theorem r_162_20 : xT.1 162 20 = some (.iand, ((0, 0), ([], []))) := (kT_162 20).trans rfl
set_option maxRecDepth 100000 in
theorem r_162_21 : xT.1 162 21 = some (.iconst 3, ((0, 0), ([.int 3], []))) := (kT_162 21).trans rfl
set_option maxRecDepth 100000 in
theorem r_162_22 : xT.1 162 22 = some (.irem, ((0, 0), ([], []))) := (kT_162 22).trans rfl
set_option maxRecDepth 100000 in
theorem r_162_23 : xT.1 162 23 = some (.iadd, ((0, 0), ([], []))) := (kT_162 23).trans rfl
set_option maxRecDepth 100000 in
theorem r_162_24 : xT.1 162 24 = some (.if_icmp .ge 16, ((40, 0), ([], []))) := (kT_162 24).trans rfl
set_option maxRecDepth 100000 in
theorem r_162_27 : xT.1 162 27 = some (.aload_n 1, ((0, 0), ([], []))) := (kT_162 27).trans rfl
set_option maxRecDepth 100000 in
theorem r_162_28 : xT.1 162 28 = some (.iconst 0, ((0, 0), ([.int 0], []))) := (kT_162 28).trans rfl
set_option maxRecDepth 100000 in
theorem r_162_29 : xT.1 162 29 = some (.iconst 0, ((0, 0), ([.int 0], []))) := (kT_162 29).trans rfl
set_option maxRecDepth 100000 in
theorem r_162_30 : xT.1 162 30 = some (.invokestatic 30, ((163, 3), ([], [3]))) := (kT_162 30).trans rfl
set_option maxRecDepth 100000 in
theorem r_162_33 : xT.1 162 33 = some (.pop, ((0, 0), ([], []))) := (kT_162 33).trans rfl
set_option maxRecDepth 100000 in
theorem r_162_34 : xT.1 162 34 = some (.iinc 3 1, ((0, 0), ([.int (1)], []))) := (kT_162 34).trans rfl
set_option maxRecDepth 100000 in
theorem r_162_37 : xT.1 162 37 = some (.goto (-21), ((16, 0), ([], []))) := (kT_162 37).trans rfl
set_option maxRecDepth 100000 in
theorem r_162_40 : xT.1 162 40 = some (.iconst 0, ((0, 0), ([.int 0], []))) := (kT_162 40).trans rfl
set_option maxRecDepth 100000 in
theorem r_162_41 : xT.1 162 41 = some (.istore_n 3, ((0, 0), ([], []))) := (kT_162 41).trans rfl
set_option maxRecDepth 100000 in
theorem r_162_42 : xT.1 162 42 = some (.iload_n 3, ((0, 0), ([], []))) := (kT_162 42).trans rfl
set_option maxRecDepth 100000 in
theorem r_162_43 : xT.1 162 43 = some (.iconst 2, ((0, 0), ([.int 2], []))) := (kT_162 43).trans rfl
set_option maxRecDepth 100000 in
theorem r_162_44 : xT.1 162 44 = some (.if_icmp .ge 28, ((72, 0), ([], []))) := (kT_162 44).trans rfl
set_option maxRecDepth 100000 in
theorem r_162_47 : xT.1 162 47 = some (.aload_n 1, ((0, 0), ([], []))) := (kT_162 47).trans rfl
set_option maxRecDepth 100000 in
theorem r_162_48 : xT.1 162 48 = some (.iconst 1, ((0, 0), ([.int 1], []))) := (kT_162 48).trans rfl
set_option maxRecDepth 100000 in
theorem r_162_49 : xT.1 162 49 = some (.iconst 1, ((0, 0), ([.int 1], []))) := (kT_162 49).trans rfl
set_option maxRecDepth 100000 in
theorem r_162_50 : xT.1 162 50 = some (.iload_n 2, ((0, 0), ([], []))) := (kT_162 50).trans rfl
set_option maxRecDepth 100000 in
theorem r_162_51 : xT.1 162 51 = some (.iconst 2, ((0, 0), ([.int 2], []))) := (kT_162 51).trans rfl
set_option maxRecDepth 100000 in
theorem r_162_52 : xT.1 162 52 = some (.iconst 2, ((0, 0), ([.int 2], []))) := (kT_162 52).trans rfl
set_option maxRecDepth 100000 in
theorem r_162_53 : xT.1 162 53 = some (.iload_n 3, ((0, 0), ([], []))) := (kT_162 53).trans rfl
set_option maxRecDepth 100000 in
theorem r_162_54 : xT.1 162 54 = some (.imul, ((0, 0), ([], []))) := (kT_162 54).trans rfl
set_option maxRecDepth 100000 in
theorem r_162_55 : xT.1 162 55 = some (.iadd, ((0, 0), ([], []))) := (kT_162 55).trans rfl
set_option maxRecDepth 100000 in
theorem r_162_56 : xT.1 162 56 = some (.ishr, ((0, 0), ([], []))) := (kT_162 56).trans rfl
set_option maxRecDepth 100000 in
theorem r_162_57 : xT.1 162 57 = some (.iconst 3, ((0, 0), ([.int 3], []))) := (kT_162 57).trans rfl
set_option maxRecDepth 100000 in
theorem r_162_58 : xT.1 162 58 = some (.iand, ((0, 0), ([], []))) := (kT_162 58).trans rfl
set_option maxRecDepth 100000 in
theorem r_162_59 : xT.1 162 59 = some (.iconst 3, ((0, 0), ([.int 3], []))) := (kT_162 59).trans rfl
set_option maxRecDepth 100000 in
theorem r_162_60 : xT.1 162 60 = some (.irem, ((0, 0), ([], []))) := (kT_162 60).trans rfl
set_option maxRecDepth 100000 in
theorem r_162_61 : xT.1 162 61 = some (.iadd, ((0, 0), ([], []))) := (kT_162 61).trans rfl
set_option maxRecDepth 100000 in
theorem r_162_62 : xT.1 162 62 = some (.invokestatic 30, ((163, 3), ([], [3]))) := (kT_162 62).trans rfl
set_option maxRecDepth 100000 in
theorem r_162_65 : xT.1 162 65 = some (.pop, ((0, 0), ([], []))) := (kT_162 65).trans rfl
set_option maxRecDepth 100000 in
theorem r_162_66 : xT.1 162 66 = some (.iinc 3 1, ((0, 0), ([.int (1)], []))) := (kT_162 66).trans rfl
set_option maxRecDepth 100000 in
theorem r_162_69 : xT.1 162 69 = some (.goto (-27), ((42, 0), ([], []))) := (kT_162 69).trans rfl
set_option maxRecDepth 100000 in
theorem r_162_72 : xT.1 162 72 = some (.iconst 1, ((0, 0), ([.int 1], []))) := (kT_162 72).trans rfl
set_option maxRecDepth 100000 in
theorem r_162_73 : xT.1 162 73 = some (.istore_n 3, ((0, 0), ([], []))) := (kT_162 73).trans rfl
set_option maxRecDepth 100000 in
theorem r_162_74 : xT.1 162 74 = some (.iload_n 3, ((0, 0), ([], []))) := (kT_162 74).trans rfl
set_option maxRecDepth 100000 in
theorem r_162_75 : xT.1 162 75 = some (.bipush 13, ((0, 0), ([.int 13], []))) := (kT_162 75).trans rfl
set_option maxRecDepth 100000 in
theorem r_162_77 : xT.1 162 77 = some (.if_icmp .ge 245, ((322, 0), ([], []))) := (kT_162 77).trans rfl
set_option maxRecDepth 100000 in
theorem r_162_80 : xT.1 162 80 = some (.aload_n 0, ((0, 0), ([], []))) := (kT_162 80).trans rfl
set_option maxRecDepth 100000 in
theorem r_162_81 : xT.1 162 81 = some (.iload_n 3, ((0, 0), ([], []))) := (kT_162 81).trans rfl
set_option maxRecDepth 100000 in
theorem r_162_82 : xT.1 162 82 = some (.invokestatic 24, ((160, 2), ([], [1]))) := (kT_162 82).trans rfl
set_option maxRecDepth 100000 in
theorem r_162_85 : xT.1 162 85 = some (.istore 4, ((0, 0), ([], []))) := (kT_162 85).trans rfl
set_option maxRecDepth 100000 in
theorem r_162_87 : xT.1 162 87 = some (.aload_n 1, ((0, 0), ([], []))) := (kT_162 87).trans rfl
set_option maxRecDepth 100000 in
theorem r_162_88 : xT.1 162 88 = some (.invokevirtual 34, ((95, 1), ([], [0]))) := (kT_162 88).trans rfl
set_option maxRecDepth 100000 in
theorem r_162_91 : xT.1 162 91 = some (.istore 5, ((0, 0), ([], []))) := (kT_162 91).trans rfl
set_option maxRecDepth 100000 in
theorem r_162_93 : xT.1 162 93 = some (.iconst 0, ((0, 0), ([.int 0], []))) := (kT_162 93).trans rfl
set_option maxRecDepth 100000 in
theorem r_162_94 : xT.1 162 94 = some (.istore 6, ((0, 0), ([], []))) := (kT_162 94).trans rfl
set_option maxRecDepth 100000 in
theorem r_162_96 : xT.1 162 96 = some (.iload 6, ((0, 0), ([], []))) := (kT_162 96).trans rfl
set_option maxRecDepth 100000 in
theorem r_162_98 : xT.1 162 98 = some (.iconst 2, ((0, 0), ([.int 2], []))) := (kT_162 98).trans rfl
set_option maxRecDepth 100000 in
theorem r_162_99 : xT.1 162 99 = some (.if_icmp .ge 100, ((199, 0), ([], []))) := (kT_162 99).trans rfl
set_option maxRecDepth 100000 in
theorem r_162_102 : xT.1 162 102 = some (.iload 5, ((0, 0), ([], []))) := (kT_162 102).trans rfl
set_option maxRecDepth 100000 in
theorem r_162_104 : xT.1 162 104 = some (.ifCond .le 95, ((199, 0), ([], []))) := (kT_162 104).trans rfl
set_option maxRecDepth 100000 in
theorem r_162_107 : xT.1 162 107 = some (.iload 4, ((0, 0), ([], []))) := (kT_162 107).trans rfl
set_option maxRecDepth 100000 in
theorem r_162_109 : xT.1 162 109 = some (.iconst 4, ((0, 0), ([.int 4], []))) := (kT_162 109).trans rfl
set_option maxRecDepth 100000 in
theorem r_162_110 : xT.1 162 110 = some (.iload 6, ((0, 0), ([], []))) := (kT_162 110).trans rfl
set_option maxRecDepth 100000 in
theorem r_162_112 : xT.1 162 112 = some (.imul, ((0, 0), ([], []))) := (kT_162 112).trans rfl
set_option maxRecDepth 100000 in
theorem r_162_113 : xT.1 162 113 = some (.ishr, ((0, 0), ([], []))) := (kT_162 113).trans rfl
set_option maxRecDepth 100000 in
theorem r_162_114 : xT.1 162 114 = some (.sipush 255, ((0, 0), ([.int 255], []))) := (kT_162 114).trans rfl
set_option maxRecDepth 100000 in
theorem r_162_117 : xT.1 162 117 = some (.iand, ((0, 0), ([], []))) := (kT_162 117).trans rfl
set_option maxRecDepth 100000 in
theorem r_162_118 : xT.1 162 118 = some (.istore 7, ((0, 0), ([], []))) := (kT_162 118).trans rfl
set_option maxRecDepth 100000 in
theorem r_162_120 : xT.1 162 120 = some (.aload_n 1, ((0, 0), ([], []))) := (kT_162 120).trans rfl
set_option maxRecDepth 100000 in
theorem r_162_121 : xT.1 162 121 = some (.iload 4, ((0, 0), ([], []))) := (kT_162 121).trans rfl
set_option maxRecDepth 100000 in
theorem r_162_123 : xT.1 162 123 = some (.iload 6, ((0, 0), ([], []))) := (kT_162 123).trans rfl
set_option maxRecDepth 100000 in
theorem r_162_125 : xT.1 162 125 = some (.iadd, ((0, 0), ([], []))) := (kT_162 125).trans rfl
set_option maxRecDepth 100000 in
theorem r_162_126 : xT.1 162 126 = some (.iconst 4, ((0, 0), ([.int 4], []))) := (kT_162 126).trans rfl
set_option maxRecDepth 100000 in
theorem r_162_127 : xT.1 162 127 = some (.irem, ((0, 0), ([], []))) := (kT_162 127).trans rfl
set_option maxRecDepth 100000 in
theorem r_162_128 : xT.1 162 128 = some (.iconst 3, ((0, 0), ([.int 3], []))) := (kT_162 128).trans rfl
set_option maxRecDepth 100000 in
theorem r_162_129 : xT.1 162 129 = some (.iand, ((0, 0), ([], []))) := (kT_162 129).trans rfl
set_option maxRecDepth 100000 in
theorem r_162_130 : xT.1 162 130 = some (.aload_n 1, ((0, 0), ([], []))) := (kT_162 130).trans rfl
set_option maxRecDepth 100000 in
theorem r_162_131 : xT.1 162 131 = some (.iload 4, ((0, 0), ([], []))) := (kT_162 131).trans rfl
set_option maxRecDepth 100000 in
theorem r_162_133 : xT.1 162 133 = some (.iconst 2, ((0, 0), ([.int 2], []))) := (kT_162 133).trans rfl
set_option maxRecDepth 100000 in
theorem r_162_134 : xT.1 162 134 = some (.ishr, ((0, 0), ([], []))) := (kT_162 134).trans rfl
set_option maxRecDepth 100000 in
theorem r_162_135 : xT.1 162 135 = some (.bipush 7, ((0, 0), ([.int 7], []))) := (kT_162 135).trans rfl
set_option maxRecDepth 100000 in
theorem r_162_137 : xT.1 162 137 = some (.iand, ((0, 0), ([], []))) := (kT_162 137).trans rfl
set_option maxRecDepth 100000 in
theorem r_162_138 : xT.1 162 138 = some (.iload 5, ((0, 0), ([], []))) := (kT_162 138).trans rfl
set_option maxRecDepth 100000 in
theorem r_162_140 : xT.1 162 140 = some (.irem, ((0, 0), ([], []))) := (kT_162 140).trans rfl
set_option maxRecDepth 100000 in
theorem r_162_141 : xT.1 162 141 = some (.invokevirtual 37, ((96, 2), ([], [0]))) := (kT_162 141).trans rfl
set_option maxRecDepth 100000 in
theorem r_162_144 : xT.1 162 144 = some (.iload 7, ((0, 0), ([], []))) := (kT_162 144).trans rfl
set_option maxRecDepth 100000 in
theorem r_162_146 : xT.1 162 146 = some (.iload 7, ((0, 0), ([], []))) := (kT_162 146).trans rfl
set_option maxRecDepth 100000 in
theorem r_162_148 : xT.1 162 148 = some (.iload 4, ((0, 0), ([], []))) := (kT_162 148).trans rfl
set_option maxRecDepth 100000 in
theorem r_162_150 : xT.1 162 150 = some (.bipush 8, ((0, 0), ([.int 8], []))) := (kT_162 150).trans rfl
set_option maxRecDepth 100000 in
theorem r_162_152 : xT.1 162 152 = some (.iload 6, ((0, 0), ([], []))) := (kT_162 152).trans rfl
set_option maxRecDepth 100000 in
theorem r_162_154 : xT.1 162 154 = some (.iadd, ((0, 0), ([], []))) := (kT_162 154).trans rfl
set_option maxRecDepth 100000 in
theorem r_162_155 : xT.1 162 155 = some (.ishr, ((0, 0), ([], []))) := (kT_162 155).trans rfl
set_option maxRecDepth 100000 in
theorem r_162_156 : xT.1 162 156 = some (.bipush 127, ((0, 0), ([.int 127], []))) := (kT_162 156).trans rfl
set_option maxRecDepth 100000 in
theorem r_162_158 : xT.1 162 158 = some (.iand, ((0, 0), ([], []))) := (kT_162 158).trans rfl
set_option maxRecDepth 100000 in
theorem r_162_159 : xT.1 162 159 = some (.iadd, ((0, 0), ([], []))) := (kT_162 159).trans rfl
set_option maxRecDepth 100000 in
theorem r_162_160 : xT.1 162 160 = some (.iconst 1, ((0, 0), ([.int 1], []))) := (kT_162 160).trans rfl
set_option maxRecDepth 100000 in
theorem r_162_161 : xT.1 162 161 = some (.iload 4, ((0, 0), ([], []))) := (kT_162 161).trans rfl
set_option maxRecDepth 100000 in
theorem r_162_163 : xT.1 162 163 = some (.bipush 13, ((0, 0), ([.int 13], []))) := (kT_162 163).trans rfl
set_option maxRecDepth 100000 in
theorem r_162_165 : xT.1 162 165 = some (.iload 6, ((0, 0), ([], []))) := (kT_162 165).trans rfl
set_option maxRecDepth 100000 in
theorem r_162_167 : xT.1 162 167 = some (.iadd, ((0, 0), ([], []))) := (kT_162 167).trans rfl
set_option maxRecDepth 100000 in
theorem r_162_168 : xT.1 162 168 = some (.ishr, ((0, 0), ([], []))) := (kT_162 168).trans rfl
set_option maxRecDepth 100000 in
theorem r_162_169 : xT.1 162 169 = some (.bipush 15, ((0, 0), ([.int 15], []))) := (kT_162 169).trans rfl
set_option maxRecDepth 100000 in
theorem r_162_171 : xT.1 162 171 = some (.iand, ((0, 0), ([], []))) := (kT_162 171).trans rfl
set_option maxRecDepth 100000 in
theorem r_162_172 : xT.1 162 172 = some (.bipush 9, ((0, 0), ([.int 9], []))) := (kT_162 172).trans rfl
set_option maxRecDepth 100000 in
theorem r_162_174 : xT.1 162 174 = some (.irem, ((0, 0), ([], []))) := (kT_162 174).trans rfl
set_option maxRecDepth 100000 in
theorem r_162_175 : xT.1 162 175 = some (.iadd, ((0, 0), ([], []))) := (kT_162 175).trans rfl
set_option maxRecDepth 100000 in
theorem r_162_176 : xT.1 162 176 = some (.iconst 1, ((0, 0), ([.int 1], []))) := (kT_162 176).trans rfl
set_option maxRecDepth 100000 in
theorem r_162_177 : xT.1 162 177 = some (.iload 4, ((0, 0), ([], []))) := (kT_162 177).trans rfl
set_option maxRecDepth 100000 in
theorem r_162_179 : xT.1 162 179 = some (.bipush 18, ((0, 0), ([.int 18], []))) := (kT_162 179).trans rfl
set_option maxRecDepth 100000 in
theorem r_162_181 : xT.1 162 181 = some (.iload 6, ((0, 0), ([], []))) := (kT_162 181).trans rfl
set_option maxRecDepth 100000 in
theorem r_162_183 : xT.1 162 183 = some (.iadd, ((0, 0), ([], []))) := (kT_162 183).trans rfl
set_option maxRecDepth 100000 in
theorem r_162_184 : xT.1 162 184 = some (.ishr, ((0, 0), ([], []))) := (kT_162 184).trans rfl
set_option maxRecDepth 100000 in
theorem r_162_185 : xT.1 162 185 = some (.bipush 7, ((0, 0), ([.int 7], []))) := (kT_162 185).trans rfl
set_option maxRecDepth 100000 in
theorem r_162_187 : xT.1 162 187 = some (.iand, ((0, 0), ([], []))) := (kT_162 187).trans rfl
set_option maxRecDepth 100000 in
theorem r_162_188 : xT.1 162 188 = some (.iadd, ((0, 0), ([], []))) := (kT_162 188).trans rfl
set_option maxRecDepth 100000 in
theorem r_162_189 : xT.1 162 189 = some (.invokestatic 41, ((164, 7), ([], [3]))) := (kT_162 189).trans rfl
set_option maxRecDepth 100000 in
theorem r_162_192 : xT.1 162 192 = some (.pop, ((0, 0), ([], []))) := (kT_162 192).trans rfl
set_option maxRecDepth 100000 in
theorem r_162_193 : xT.1 162 193 = some (.iinc 6 1, ((0, 0), ([.int (1)], []))) := (kT_162 193).trans rfl
set_option maxRecDepth 100000 in
theorem r_162_196 : xT.1 162 196 = some (.goto (-100), ((96, 0), ([], []))) := (kT_162 196).trans rfl
set_option maxRecDepth 100000 in
theorem r_162_199 : xT.1 162 199 = some (.iload 4, ((0, 0), ([], []))) := (kT_162 199).trans rfl
set_option maxRecDepth 100000 in
theorem r_162_201 : xT.1 162 201 = some (.bipush 21, ((0, 0), ([.int 21], []))) := (kT_162 201).trans rfl
set_option maxRecDepth 100000 in
theorem r_162_203 : xT.1 162 203 = some (.ishr, ((0, 0), ([], []))) := (kT_162 203).trans rfl
set_option maxRecDepth 100000 in
theorem r_162_204 : xT.1 162 204 = some (.iconst 3, ((0, 0), ([.int 3], []))) := (kT_162 204).trans rfl
set_option maxRecDepth 100000 in
theorem r_162_205 : xT.1 162 205 = some (.iand, ((0, 0), ([], []))) := (kT_162 205).trans rfl
set_option maxRecDepth 100000 in
theorem r_162_206 : xT.1 162 206 = some (.ifCond .ne 20, ((226, 0), ([], []))) := (kT_162 206).trans rfl
set_option maxRecDepth 100000 in
theorem r_162_209 : xT.1 162 209 = some (.aload_n 1, ((0, 0), ([], []))) := (kT_162 209).trans rfl
set_option maxRecDepth 100000 in
theorem r_162_210 : xT.1 162 210 = some (.iconst 1, ((0, 0), ([.int 1], []))) := (kT_162 210).trans rfl
set_option maxRecDepth 100000 in
theorem r_162_211 : xT.1 162 211 = some (.iconst 1, ((0, 0), ([.int 1], []))) := (kT_162 211).trans rfl
set_option maxRecDepth 100000 in
theorem r_162_212 : xT.1 162 212 = some (.iload 4, ((0, 0), ([], []))) := (kT_162 212).trans rfl
set_option maxRecDepth 100000 in
theorem r_162_214 : xT.1 162 214 = some (.bipush 23, ((0, 0), ([.int 23], []))) := (kT_162 214).trans rfl
set_option maxRecDepth 100000 in
theorem r_162_216 : xT.1 162 216 = some (.ishr, ((0, 0), ([], []))) := (kT_162 216).trans rfl
set_option maxRecDepth 100000 in
theorem r_162_217 : xT.1 162 217 = some (.iconst 3, ((0, 0), ([.int 3], []))) := (kT_162 217).trans rfl
set_option maxRecDepth 100000 in
theorem r_162_218 : xT.1 162 218 = some (.iand, ((0, 0), ([], []))) := (kT_162 218).trans rfl
set_option maxRecDepth 100000 in
theorem r_162_219 : xT.1 162 219 = some (.iconst 3, ((0, 0), ([.int 3], []))) := (kT_162 219).trans rfl
set_option maxRecDepth 100000 in
theorem r_162_220 : xT.1 162 220 = some (.irem, ((0, 0), ([], []))) := (kT_162 220).trans rfl
set_option maxRecDepth 100000 in
theorem r_162_221 : xT.1 162 221 = some (.iadd, ((0, 0), ([], []))) := (kT_162 221).trans rfl
set_option maxRecDepth 100000 in
theorem r_162_222 : xT.1 162 222 = some (.invokestatic 30, ((163, 3), ([], [3]))) := (kT_162 222).trans rfl
set_option maxRecDepth 100000 in
theorem r_162_225 : xT.1 162 225 = some (.pop, ((0, 0), ([], []))) := (kT_162 225).trans rfl
set_option maxRecDepth 100000 in
theorem r_162_226 : xT.1 162 226 = some (.iload 4, ((0, 0), ([], []))) := (kT_162 226).trans rfl
set_option maxRecDepth 100000 in
theorem r_162_228 : xT.1 162 228 = some (.bipush 21, ((0, 0), ([.int 21], []))) := (kT_162 228).trans rfl
set_option maxRecDepth 100000 in
theorem r_162_230 : xT.1 162 230 = some (.ishr, ((0, 0), ([], []))) := (kT_162 230).trans rfl
set_option maxRecDepth 100000 in
theorem r_162_231 : xT.1 162 231 = some (.iconst 3, ((0, 0), ([.int 3], []))) := (kT_162 231).trans rfl
set_option maxRecDepth 100000 in
theorem r_162_232 : xT.1 162 232 = some (.iand, ((0, 0), ([], []))) := (kT_162 232).trans rfl
set_option maxRecDepth 100000 in
theorem r_162_233 : xT.1 162 233 = some (.iconst 1, ((0, 0), ([.int 1], []))) := (kT_162 233).trans rfl
set_option maxRecDepth 100000 in
theorem r_162_234 : xT.1 162 234 = some (.if_icmp .ne 17, ((251, 0), ([], []))) := (kT_162 234).trans rfl
set_option maxRecDepth 100000 in
theorem r_162_237 : xT.1 162 237 = some (.aload_n 1, ((0, 0), ([], []))) := (kT_162 237).trans rfl
set_option maxRecDepth 100000 in
theorem r_162_238 : xT.1 162 238 = some (.iconst 2, ((0, 0), ([.int 2], []))) := (kT_162 238).trans rfl
set_option maxRecDepth 100000 in
theorem r_162_239 : xT.1 162 239 = some (.iload 4, ((0, 0), ([], []))) := (kT_162 239).trans rfl
set_option maxRecDepth 100000 in
theorem r_162_241 : xT.1 162 241 = some (.iconst 3, ((0, 0), ([.int 3], []))) := (kT_162 241).trans rfl
set_option maxRecDepth 100000 in
theorem r_162_242 : xT.1 162 242 = some (.ishr, ((0, 0), ([], []))) := (kT_162 242).trans rfl
set_option maxRecDepth 100000 in
theorem r_162_243 : xT.1 162 243 = some (.sipush 255, ((0, 0), ([.int 255], []))) := (kT_162 243).trans rfl
set_option maxRecDepth 100000 in
theorem r_162_246 : xT.1 162 246 = some (.iand, ((0, 0), ([], []))) := (kT_162 246).trans rfl
set_option maxRecDepth 100000 in
theorem r_162_247 : xT.1 162 247 = some (.invokestatic 30, ((163, 3), ([], [3]))) := (kT_162 247).trans rfl
set_option maxRecDepth 100000 in
theorem r_162_250 : xT.1 162 250 = some (.pop, ((0, 0), ([], []))) := (kT_162 250).trans rfl
set_option maxRecDepth 100000 in
theorem r_162_251 : xT.1 162 251 = some (.iload 4, ((0, 0), ([], []))) := (kT_162 251).trans rfl
set_option maxRecDepth 100000 in
theorem r_162_253 : xT.1 162 253 = some (.bipush 21, ((0, 0), ([.int 21], []))) := (kT_162 253).trans rfl
set_option maxRecDepth 100000 in
theorem r_162_255 : xT.1 162 255 = some (.ishr, ((0, 0), ([], []))) := (kT_162 255).trans rfl
set_option maxRecDepth 100000 in
theorem r_162_256 : xT.1 162 256 = some (.bipush 7, ((0, 0), ([.int 7], []))) := (kT_162 256).trans rfl
set_option maxRecDepth 100000 in
theorem r_162_258 : xT.1 162 258 = some (.iand, ((0, 0), ([], []))) := (kT_162 258).trans rfl
set_option maxRecDepth 100000 in
theorem r_162_259 : xT.1 162 259 = some (.iconst 2, ((0, 0), ([.int 2], []))) := (kT_162 259).trans rfl
set_option maxRecDepth 100000 in
theorem r_162_260 : xT.1 162 260 = some (.if_icmp .ne 10, ((270, 0), ([], []))) := (kT_162 260).trans rfl
set_option maxRecDepth 100000 in
theorem r_162_263 : xT.1 162 263 = some (.aload_n 1, ((0, 0), ([], []))) := (kT_162 263).trans rfl
set_option maxRecDepth 100000 in
theorem r_162_264 : xT.1 162 264 = some (.iconst 3, ((0, 0), ([.int 3], []))) := (kT_162 264).trans rfl
set_option maxRecDepth 100000 in
theorem r_162_265 : xT.1 162 265 = some (.iconst 0, ((0, 0), ([.int 0], []))) := (kT_162 265).trans rfl
set_option maxRecDepth 100000 in
theorem r_162_266 : xT.1 162 266 = some (.invokestatic 30, ((163, 3), ([], [3]))) := (kT_162 266).trans rfl
set_option maxRecDepth 100000 in
theorem r_162_269 : xT.1 162 269 = some (.pop, ((0, 0), ([], []))) := (kT_162 269).trans rfl
set_option maxRecDepth 100000 in
theorem r_162_270 : xT.1 162 270 = some (.iload 4, ((0, 0), ([], []))) := (kT_162 270).trans rfl
set_option maxRecDepth 100000 in
theorem r_162_272 : xT.1 162 272 = some (.bipush 21, ((0, 0), ([.int 21], []))) := (kT_162 272).trans rfl
set_option maxRecDepth 100000 in
theorem r_162_274 : xT.1 162 274 = some (.ishr, ((0, 0), ([], []))) := (kT_162 274).trans rfl
set_option maxRecDepth 100000 in
theorem r_162_275 : xT.1 162 275 = some (.bipush 31, ((0, 0), ([.int 31], []))) := (kT_162 275).trans rfl
set_option maxRecDepth 100000 in
theorem r_162_277 : xT.1 162 277 = some (.iand, ((0, 0), ([], []))) := (kT_162 277).trans rfl
set_option maxRecDepth 100000 in
theorem r_162_278 : xT.1 162 278 = some (.bipush 6, ((0, 0), ([.int 6], []))) := (kT_162 278).trans rfl
set_option maxRecDepth 100000 in
theorem r_162_280 : xT.1 162 280 = some (.if_icmp .ne 16, ((296, 0), ([], []))) := (kT_162 280).trans rfl
set_option maxRecDepth 100000 in
theorem r_162_283 : xT.1 162 283 = some (.aload_n 1, ((0, 0), ([], []))) := (kT_162 283).trans rfl
set_option maxRecDepth 100000 in
theorem r_162_284 : xT.1 162 284 = some (.iconst 4, ((0, 0), ([.int 4], []))) := (kT_162 284).trans rfl
set_option maxRecDepth 100000 in
theorem r_162_285 : xT.1 162 285 = some (.iload 4, ((0, 0), ([], []))) := (kT_162 285).trans rfl
set_option maxRecDepth 100000 in
theorem r_162_287 : xT.1 162 287 = some (.bipush 26, ((0, 0), ([.int 26], []))) := (kT_162 287).trans rfl
set_option maxRecDepth 100000 in
theorem r_162_289 : xT.1 162 289 = some (.ishr, ((0, 0), ([], []))) := (kT_162 289).trans rfl
set_option maxRecDepth 100000 in
theorem r_162_290 : xT.1 162 290 = some (.iconst 3, ((0, 0), ([.int 3], []))) := (kT_162 290).trans rfl
set_option maxRecDepth 100000 in
theorem r_162_291 : xT.1 162 291 = some (.iand, ((0, 0), ([], []))) := (kT_162 291).trans rfl
set_option maxRecDepth 100000 in
theorem r_162_292 : xT.1 162 292 = some (.invokestatic 30, ((163, 3), ([], [3]))) := (kT_162 292).trans rfl
set_option maxRecDepth 100000 in
theorem r_162_295 : xT.1 162 295 = some (.pop, ((0, 0), ([], []))) := (kT_162 295).trans rfl
set_option maxRecDepth 100000 in
theorem r_162_296 : xT.1 162 296 = some (.iload 4, ((0, 0), ([], []))) := (kT_162 296).trans rfl
set_option maxRecDepth 100000 in
theorem r_162_298 : xT.1 162 298 = some (.bipush 21, ((0, 0), ([.int 21], []))) := (kT_162 298).trans rfl
set_option maxRecDepth 100000 in
theorem r_162_300 : xT.1 162 300 = some (.ishr, ((0, 0), ([], []))) := (kT_162 300).trans rfl
set_option maxRecDepth 100000 in
theorem r_162_301 : xT.1 162 301 = some (.bipush 31, ((0, 0), ([.int 31], []))) := (kT_162 301).trans rfl
set_option maxRecDepth 100000 in
theorem r_162_303 : xT.1 162 303 = some (.iand, ((0, 0), ([], []))) := (kT_162 303).trans rfl
set_option maxRecDepth 100000 in
theorem r_162_304 : xT.1 162 304 = some (.bipush 7, ((0, 0), ([.int 7], []))) := (kT_162 304).trans rfl
set_option maxRecDepth 100000 in
theorem r_162_306 : xT.1 162 306 = some (.if_icmp .ne 10, ((316, 0), ([], []))) := (kT_162 306).trans rfl
set_option maxRecDepth 100000 in
theorem r_162_309 : xT.1 162 309 = some (.aload_n 1, ((0, 0), ([], []))) := (kT_162 309).trans rfl
set_option maxRecDepth 100000 in
theorem r_162_310 : xT.1 162 310 = some (.iconst 0, ((0, 0), ([.int 0], []))) := (kT_162 310).trans rfl
set_option maxRecDepth 100000 in
theorem r_162_311 : xT.1 162 311 = some (.iconst 0, ((0, 0), ([.int 0], []))) := (kT_162 311).trans rfl
set_option maxRecDepth 100000 in
theorem r_162_312 : xT.1 162 312 = some (.invokestatic 30, ((163, 3), ([], [3]))) := (kT_162 312).trans rfl
set_option maxRecDepth 100000 in
theorem r_162_315 : xT.1 162 315 = some (.pop, ((0, 0), ([], []))) := (kT_162 315).trans rfl
set_option maxRecDepth 100000 in
theorem r_162_316 : xT.1 162 316 = some (.iinc 3 1, ((0, 0), ([.int (1)], []))) := (kT_162 316).trans rfl
set_option maxRecDepth 100000 in
theorem r_162_319 : xT.1 162 319 = some (.goto (-245), ((74, 0), ([], []))) := (kT_162 319).trans rfl
set_option maxRecDepth 100000 in
theorem r_162_322 : xT.1 162 322 = some (.aload_n 1, ((0, 0), ([], []))) := (kT_162 322).trans rfl
set_option maxRecDepth 100000 in
theorem r_162_323 : xT.1 162 323 = some (.areturn, ((0, 0), ([], []))) := (kT_162 323).trans rfl
theorem kT_163 (pc : Nat) : xT.1 163 pc = xfind k_163 pc := rfl
theorem r_163_0 : xT.1 163 0 = some (.iload_n 1, ((0, 0), ([], []))) := (kT_163 0).trans rfl
theorem r_163_1 : xT.1 163 1 = some (.tableswitch 53 0 3 #[31, 36, 42, 48], ((54, 31), ([], [32, 37, 43, 49]))) := (kT_163 1).trans rfl
theorem r_163_32 : xT.1 163 32 = some (.aload_n 0, ((0, 0), ([], []))) := (kT_163 32).trans rfl
theorem r_163_33 : xT.1 163 33 = some (.invokevirtual 45, ((84, 1), ([], [0]))) := (kT_163 33).trans rfl
theorem r_163_36 : xT.1 163 36 = some (.ireturn, ((0, 0), ([], []))) := (kT_163 36).trans rfl
theorem r_163_37 : xT.1 163 37 = some (.aload_n 0, ((0, 0), ([], []))) := (kT_163 37).trans rfl
theorem r_163_38 : xT.1 163 38 = some (.iload_n 2, ((0, 0), ([], []))) := (kT_163 38).trans rfl
theorem r_163_39 : xT.1 163 39 = some (.invokevirtual 48, ((85, 2), ([], [0]))) := (kT_163 39).trans rfl
theorem r_163_42 : xT.1 163 42 = some (.ireturn, ((0, 0), ([], []))) := (kT_163 42).trans rfl
theorem r_163_43 : xT.1 163 43 = some (.aload_n 0, ((0, 0), ([], []))) := (kT_163 43).trans rfl
theorem r_163_44 : xT.1 163 44 = some (.iload_n 2, ((0, 0), ([], []))) := (kT_163 44).trans rfl
theorem r_163_45 : xT.1 163 45 = some (.invokevirtual 51, ((87, 2), ([], [0]))) := (kT_163 45).trans rfl
theorem r_163_48 : xT.1 163 48 = some (.ireturn, ((0, 0), ([], []))) := (kT_163 48).trans rfl
theorem r_163_49 : xT.1 163 49 = some (.aload_n 0, ((0, 0), ([], []))) := (kT_163 49).trans rfl
theorem r_163_50 : xT.1 163 50 = some (.invokevirtual 54, ((88, 1), ([], [0]))) := (kT_163 50).trans rfl
theorem r_163_53 : xT.1 163 53 = some (.ireturn, ((0, 0), ([], []))) := (kT_163 53).trans rfl
theorem r_163_54 : xT.1 163 54 = some (.aload_n 0, ((0, 0), ([], []))) := (kT_163 54).trans rfl
theorem r_163_55 : xT.1 163 55 = some (.iload_n 2, ((0, 0), ([], []))) := (kT_163 55).trans rfl
theorem r_163_56 : xT.1 163 56 = some (.invokevirtual 57, ((89, 2), ([], [0]))) := (kT_163 56).trans rfl
theorem r_163_59 : xT.1 163 59 = some (.ireturn, ((0, 0), ([], []))) := (kT_163 59).trans rfl
theorem r_163_60 : xT.1 163 60 = some (.astore_n 3, ((0, 0), ([], []))) := (kT_163 60).trans rfl
theorem r_163_61 : xT.1 163 61 = some (.sipush (-1001), ((0, 0), ([.int (-1001)], []))) := (kT_163 61).trans rfl
theorem r_163_64 : xT.1 163 64 = some (.ireturn, ((0, 0), ([], []))) := (kT_163 64).trans rfl
theorem r_163_65 : xT.1 163 65 = some (.astore_n 3, ((0, 0), ([], []))) := (kT_163 65).trans rfl
theorem r_163_66 : xT.1 163 66 = some (.sipush (-1002), ((0, 0), ([.int (-1002)], []))) := (kT_163 66).trans rfl
theorem r_163_69 : xT.1 163 69 = some (.ireturn, ((0, 0), ([], []))) := (kT_163 69).trans rfl
theorem r_163_70 : xT.1 163 70 = some (.astore_n 3, ((0, 0), ([], []))) := (kT_163 70).trans rfl
theorem r_163_71 : xT.1 163 71 = some (.sipush (-1002), ((0, 0), ([.int (-1002)], []))) := (kT_163 71).trans rfl
theorem r_163_74 : xT.1 163 74 = some (.ireturn, ((0, 0), ([], []))) := (kT_163 74).trans rfl
theorem r_163_75 : xT.1 163 75 = some (.astore_n 3, ((0, 0), ([], []))) := (kT_163 75).trans rfl
theorem r_163_76 : xT.1 163 76 = some (.sipush (-1002), ((0, 0), ([.int (-1002)], []))) := (kT_163 76).trans rfl
theorem r_163_79 : xT.1 163 79 = some (.ireturn, ((0, 0), ([], []))) := (kT_163 79).trans rfl
theorem kT_164 (pc : Nat) : xT.1 164 pc = xfind k_164 pc := rfl
theorem r_164_0 : xT.1 164 0 = some (.aload_n 0, ((0, 0), ([], []))) := (kT_164 0).trans rfl
theorem r_164_1 : xT.1 164 1 = some (.iload_n 1, ((0, 0), ([], []))) := (kT_164 1).trans rfl
theorem r_164_2 : xT.1 164 2 = some (.iload_n 2, ((0, 0), ([], []))) := (kT_164 2).trans rfl
theorem r_164_3 : xT.1 164 3 = some (.iload_n 3, ((0, 0), ([], []))) := (kT_164 3).trans rfl
theorem r_164_4 : xT.1 164 4 = some (.iload 4, ((0, 0), ([], []))) := (kT_164 4).trans rfl
theorem r_164_6 : xT.1 164 6 = some (.iload 5, ((0, 0), ([], []))) := (kT_164 6).trans rfl
theorem r_164_8 : xT.1 164 8 = some (.iload 6, ((0, 0), ([], []))) := (kT_164 8).trans rfl
theorem r_164_10 : xT.1 164 10 = some (.invokevirtual 68, ((86, 7), ([], [0]))) := (kT_164 10).trans rfl
theorem r_164_13 : xT.1 164 13 = some (.ireturn, ((0, 0), ([], []))) := (kT_164 13).trans rfl
theorem r_164_14 : xT.1 164 14 = some (.astore 7, ((0, 0), ([], []))) := (kT_164 14).trans rfl
theorem r_164_16 : xT.1 164 16 = some (.iconst (-1), ((0, 0), ([.int (-1)], []))) := (kT_164 16).trans rfl
theorem r_164_17 : xT.1 164 17 = some (.ireturn, ((0, 0), ([], []))) := (kT_164 17).trans rfl
theorem r_164_18 : xT.1 164 18 = some (.astore 7, ((0, 0), ([], []))) := (kT_164 18).trans rfl
theorem r_164_20 : xT.1 164 20 = some (.bipush (-2), ((0, 0), ([.int (-2)], []))) := (kT_164 20).trans rfl
theorem r_164_22 : xT.1 164 22 = some (.ireturn, ((0, 0), ([], []))) := (kT_164 22).trans rfl
theorem r_164_23 : xT.1 164 23 = some (.astore 7, ((0, 0), ([], []))) := (kT_164 23).trans rfl
theorem r_164_25 : xT.1 164 25 = some (.bipush (-3), ((0, 0), ([.int (-3)], []))) := (kT_164 25).trans rfl
theorem r_164_27 : xT.1 164 27 = some (.ireturn, ((0, 0), ([], []))) := (kT_164 27).trans rfl
theorem r_164_28 : xT.1 164 28 = some (.astore 7, ((0, 0), ([], []))) := (kT_164 28).trans rfl
theorem r_164_30 : xT.1 164 30 = some (.bipush (-4), ((0, 0), ([.int (-4)], []))) := (kT_164 30).trans rfl
theorem r_164_32 : xT.1 164 32 = some (.ireturn, ((0, 0), ([], []))) := (kT_164 32).trans rfl
theorem r_164_33 : xT.1 164 33 = some (.astore 7, ((0, 0), ([], []))) := (kT_164 33).trans rfl
theorem r_164_35 : xT.1 164 35 = some (.bipush (-5), ((0, 0), ([.int (-5)], []))) := (kT_164 35).trans rfl
theorem r_164_37 : xT.1 164 37 = some (.ireturn, ((0, 0), ([], []))) := (kT_164 37).trans rfl
theorem kT_165 (pc : Nat) : xT.1 165 pc = xfind k_165 pc := rfl
set_option maxRecDepth 100000 in
theorem r_165_0 : xT.1 165 0 = some (.bipush 31, ((0, 0), ([.int 31], []))) := (kT_165 0).trans rfl
set_option maxRecDepth 100000 in
theorem r_165_2 : xT.1 165 2 = some (.bipush 31, ((0, 0), ([.int 31], []))) := (kT_165 2).trans rfl
set_option maxRecDepth 100000 in
theorem r_165_4 : xT.1 165 4 = some (.aload_n 0, ((0, 0), ([], []))) := (kT_165 4).trans rfl
set_option maxRecDepth 100000 in
theorem r_165_5 : xT.1 165 5 = some (.invokevirtual 74, ((93, 1), ([], [0]))) := (kT_165 5).trans rfl
set_option maxRecDepth 100000 in
theorem r_165_8 : xT.1 165 8 = some (.imul, ((0, 0), ([], []))) := (kT_165 8).trans rfl
set_option maxRecDepth 100000 in
theorem r_165_9 : xT.1 165 9 = some (.aload_n 0, ((0, 0), ([], []))) := (kT_165 9).trans rfl
set_option maxRecDepth 100000 in
theorem r_165_10 : xT.1 165 10 = some (.invokevirtual 77, ((111, 1), ([], [0]))) := (kT_165 10).trans rfl
set_option maxRecDepth 100000 in
theorem r_165_13 : xT.1 165 13 = some (.iadd, ((0, 0), ([], []))) := (kT_165 13).trans rfl
set_option maxRecDepth 100000 in
theorem r_165_14 : xT.1 165 14 = some (.imul, ((0, 0), ([], []))) := (kT_165 14).trans rfl
set_option maxRecDepth 100000 in
theorem r_165_15 : xT.1 165 15 = some (.aload_n 0, ((0, 0), ([], []))) := (kT_165 15).trans rfl
set_option maxRecDepth 100000 in
theorem r_165_16 : xT.1 165 16 = some (.invokevirtual 34, ((95, 1), ([], [0]))) := (kT_165 16).trans rfl
set_option maxRecDepth 100000 in
theorem r_165_19 : xT.1 165 19 = some (.iadd, ((0, 0), ([], []))) := (kT_165 19).trans rfl
set_option maxRecDepth 100000 in
theorem r_165_20 : xT.1 165 20 = some (.istore_n 1, ((0, 0), ([], []))) := (kT_165 20).trans rfl
set_option maxRecDepth 100000 in
theorem r_165_21 : xT.1 165 21 = some (.iconst 0, ((0, 0), ([.int 0], []))) := (kT_165 21).trans rfl
set_option maxRecDepth 100000 in
theorem r_165_22 : xT.1 165 22 = some (.istore_n 2, ((0, 0), ([], []))) := (kT_165 22).trans rfl
set_option maxRecDepth 100000 in
theorem r_165_23 : xT.1 165 23 = some (.iload_n 2, ((0, 0), ([], []))) := (kT_165 23).trans rfl
set_option maxRecDepth 100000 in
theorem r_165_24 : xT.1 165 24 = some (.aload_n 0, ((0, 0), ([], []))) := (kT_165 24).trans rfl
set_option maxRecDepth 100000 in
theorem r_165_25 : xT.1 165 25 = some (.invokevirtual 80, ((90, 1), ([], [0]))) := (kT_165 25).trans rfl
set_option maxRecDepth 100000 in
theorem r_165_28 : xT.1 165 28 = some (.if_icmp .ge 64, ((92, 0), ([], []))) := (kT_165 28).trans rfl
set_option maxRecDepth 100000 in
theorem r_165_31 : xT.1 165 31 = some (.bipush 31, ((0, 0), ([.int 31], []))) := (kT_165 31).trans rfl
set_option maxRecDepth 100000 in
theorem r_165_33 : xT.1 165 33 = some (.bipush 31, ((0, 0), ([.int 31], []))) := (kT_165 33).trans rfl
set_option maxRecDepth 100000 in
theorem r_165_35 : xT.1 165 35 = some (.bipush 31, ((0, 0), ([.int 31], []))) := (kT_165 35).trans rfl
set_option maxRecDepth 100000 in
theorem r_165_37 : xT.1 165 37 = some (.bipush 31, ((0, 0), ([.int 31], []))) := (kT_165 37).trans rfl
set_option maxRecDepth 100000 in
theorem r_165_39 : xT.1 165 39 = some (.bipush 31, ((0, 0), ([.int 31], []))) := (kT_165 39).trans rfl
set_option maxRecDepth 100000 in
theorem r_165_41 : xT.1 165 41 = some (.iload_n 1, ((0, 0), ([], []))) := (kT_165 41).trans rfl
set_option maxRecDepth 100000 in
theorem r_165_42 : xT.1 165 42 = some (.imul, ((0, 0), ([], []))) := (kT_165 42).trans rfl
set_option maxRecDepth 100000 in
theorem r_165_43 : xT.1 165 43 = some (.aload_n 0, ((0, 0), ([], []))) := (kT_165 43).trans rfl
set_option maxRecDepth 100000 in
theorem r_165_44 : xT.1 165 44 = some (.iload_n 2, ((0, 0), ([], []))) := (kT_165 44).trans rfl
set_option maxRecDepth 100000 in
theorem r_165_45 : xT.1 165 45 = some (.invokevirtual 83, ((91, 2), ([], [0]))) := (kT_165 45).trans rfl
set_option maxRecDepth 100000 in
theorem r_165_48 : xT.1 165 48 = some (.iadd, ((0, 0), ([], []))) := (kT_165 48).trans rfl
set_option maxRecDepth 100000 in
theorem r_165_49 : xT.1 165 49 = some (.imul, ((0, 0), ([], []))) := (kT_165 49).trans rfl
set_option maxRecDepth 100000 in
theorem r_165_50 : xT.1 165 50 = some (.aload_n 0, ((0, 0), ([], []))) := (kT_165 50).trans rfl
set_option maxRecDepth 100000 in
theorem r_165_51 : xT.1 165 51 = some (.iload_n 2, ((0, 0), ([], []))) := (kT_165 51).trans rfl
set_option maxRecDepth 100000 in
theorem r_165_52 : xT.1 165 52 = some (.invokevirtual 86, ((92, 2), ([], [0]))) := (kT_165 52).trans rfl
set_option maxRecDepth 100000 in
theorem r_165_55 : xT.1 165 55 = some (.ifCond .eq 7, ((62, 0), ([], []))) := (kT_165 55).trans rfl
set_option maxRecDepth 100000 in
theorem r_165_58 : xT.1 165 58 = some (.iconst 1, ((0, 0), ([.int 1], []))) := (kT_165 58).trans rfl
set_option maxRecDepth 100000 in
theorem r_165_59 : xT.1 165 59 = some (.goto 4, ((63, 0), ([], []))) := (kT_165 59).trans rfl
set_option maxRecDepth 100000 in
theorem r_165_62 : xT.1 165 62 = some (.iconst 0, ((0, 0), ([.int 0], []))) := (kT_165 62).trans rfl
set_option maxRecDepth 100000 in
theorem r_165_63 : xT.1 165 63 = some (.iadd, ((0, 0), ([], []))) := (kT_165 63).trans rfl
set_option maxRecDepth 100000 in
theorem r_165_64 : xT.1 165 64 = some (.imul, ((0, 0), ([], []))) := (kT_165 64).trans rfl
set_option maxRecDepth 100000 in
theorem r_165_65 : xT.1 165 65 = some (.aload_n 0, ((0, 0), ([], []))) := (kT_165 65).trans rfl
set_option maxRecDepth 100000 in
theorem r_165_66 : xT.1 165 66 = some (.iload_n 2, ((0, 0), ([], []))) := (kT_165 66).trans rfl
set_option maxRecDepth 100000 in
theorem r_165_67 : xT.1 165 67 = some (.invokevirtual 90, ((115, 2), ([], [0]))) := (kT_165 67).trans rfl
set_option maxRecDepth 100000 in
theorem r_165_70 : xT.1 165 70 = some (.iadd, ((0, 0), ([], []))) := (kT_165 70).trans rfl
set_option maxRecDepth 100000 in
theorem r_165_71 : xT.1 165 71 = some (.imul, ((0, 0), ([], []))) := (kT_165 71).trans rfl
set_option maxRecDepth 100000 in
theorem r_165_72 : xT.1 165 72 = some (.aload_n 0, ((0, 0), ([], []))) := (kT_165 72).trans rfl
set_option maxRecDepth 100000 in
theorem r_165_73 : xT.1 165 73 = some (.iload_n 2, ((0, 0), ([], []))) := (kT_165 73).trans rfl
set_option maxRecDepth 100000 in
theorem r_165_74 : xT.1 165 74 = some (.invokevirtual 93, ((114, 2), ([], [0]))) := (kT_165 74).trans rfl
set_option maxRecDepth 100000 in
theorem r_165_77 : xT.1 165 77 = some (.iadd, ((0, 0), ([], []))) := (kT_165 77).trans rfl
set_option maxRecDepth 100000 in
theorem r_165_78 : xT.1 165 78 = some (.imul, ((0, 0), ([], []))) := (kT_165 78).trans rfl
set_option maxRecDepth 100000 in
theorem r_165_79 : xT.1 165 79 = some (.aload_n 0, ((0, 0), ([], []))) := (kT_165 79).trans rfl
set_option maxRecDepth 100000 in
theorem r_165_80 : xT.1 165 80 = some (.iload_n 2, ((0, 0), ([], []))) := (kT_165 80).trans rfl
set_option maxRecDepth 100000 in
theorem r_165_81 : xT.1 165 81 = some (.invokevirtual 96, ((117, 2), ([], [0]))) := (kT_165 81).trans rfl
set_option maxRecDepth 100000 in
theorem r_165_84 : xT.1 165 84 = some (.iadd, ((0, 0), ([], []))) := (kT_165 84).trans rfl
set_option maxRecDepth 100000 in
theorem r_165_85 : xT.1 165 85 = some (.istore_n 1, ((0, 0), ([], []))) := (kT_165 85).trans rfl
set_option maxRecDepth 100000 in
theorem r_165_86 : xT.1 165 86 = some (.iinc 2 1, ((0, 0), ([.int (1)], []))) := (kT_165 86).trans rfl
set_option maxRecDepth 100000 in
theorem r_165_89 : xT.1 165 89 = some (.goto (-66), ((23, 0), ([], []))) := (kT_165 89).trans rfl
set_option maxRecDepth 100000 in
theorem r_165_92 : xT.1 165 92 = some (.iconst 1, ((0, 0), ([.int 1], []))) := (kT_165 92).trans rfl
set_option maxRecDepth 100000 in
theorem r_165_93 : xT.1 165 93 = some (.istore_n 2, ((0, 0), ([], []))) := (kT_165 93).trans rfl
set_option maxRecDepth 100000 in
theorem r_165_94 : xT.1 165 94 = some (.iload_n 2, ((0, 0), ([], []))) := (kT_165 94).trans rfl
set_option maxRecDepth 100000 in
theorem r_165_95 : xT.1 165 95 = some (.bipush 10, ((0, 0), ([.int 10], []))) := (kT_165 95).trans rfl
set_option maxRecDepth 100000 in
theorem r_165_97 : xT.1 165 97 = some (.if_icmp .ge 29, ((126, 0), ([], []))) := (kT_165 97).trans rfl
set_option maxRecDepth 100000 in
theorem r_165_100 : xT.1 165 100 = some (.bipush 31, ((0, 0), ([.int 31], []))) := (kT_165 100).trans rfl
set_option maxRecDepth 100000 in
theorem r_165_102 : xT.1 165 102 = some (.bipush 31, ((0, 0), ([.int 31], []))) := (kT_165 102).trans rfl
set_option maxRecDepth 100000 in
theorem r_165_104 : xT.1 165 104 = some (.iload_n 1, ((0, 0), ([], []))) := (kT_165 104).trans rfl
set_option maxRecDepth 100000 in
theorem r_165_105 : xT.1 165 105 = some (.imul, ((0, 0), ([], []))) := (kT_165 105).trans rfl
set_option maxRecDepth 100000 in
theorem r_165_106 : xT.1 165 106 = some (.aload_n 0, ((0, 0), ([], []))) := (kT_165 106).trans rfl
set_option maxRecDepth 100000 in
theorem r_165_107 : xT.1 165 107 = some (.iload_n 2, ((0, 0), ([], []))) := (kT_165 107).trans rfl
set_option maxRecDepth 100000 in
theorem r_165_108 : xT.1 165 108 = some (.invokevirtual 99, ((120, 2), ([], [0]))) := (kT_165 108).trans rfl
set_option maxRecDepth 100000 in
theorem r_165_111 : xT.1 165 111 = some (.iadd, ((0, 0), ([], []))) := (kT_165 111).trans rfl
set_option maxRecDepth 100000 in
theorem r_165_112 : xT.1 165 112 = some (.imul, ((0, 0), ([], []))) := (kT_165 112).trans rfl
set_option maxRecDepth 100000 in
theorem r_165_113 : xT.1 165 113 = some (.aload_n 0, ((0, 0), ([], []))) := (kT_165 113).trans rfl
set_option maxRecDepth 100000 in
theorem r_165_114 : xT.1 165 114 = some (.iload_n 2, ((0, 0), ([], []))) := (kT_165 114).trans rfl
set_option maxRecDepth 100000 in
theorem r_165_115 : xT.1 165 115 = some (.invokevirtual 102, ((122, 2), ([], [0]))) := (kT_165 115).trans rfl
set_option maxRecDepth 100000 in
theorem r_165_118 : xT.1 165 118 = some (.iadd, ((0, 0), ([], []))) := (kT_165 118).trans rfl
set_option maxRecDepth 100000 in
theorem r_165_119 : xT.1 165 119 = some (.istore_n 1, ((0, 0), ([], []))) := (kT_165 119).trans rfl
set_option maxRecDepth 100000 in
theorem r_165_120 : xT.1 165 120 = some (.iinc 2 1, ((0, 0), ([.int (1)], []))) := (kT_165 120).trans rfl
set_option maxRecDepth 100000 in
theorem r_165_123 : xT.1 165 123 = some (.goto (-29), ((94, 0), ([], []))) := (kT_165 123).trans rfl
set_option maxRecDepth 100000 in
theorem r_165_126 : xT.1 165 126 = some (.iconst 0, ((0, 0), ([.int 0], []))) := (kT_165 126).trans rfl
set_option maxRecDepth 100000 in
theorem r_165_127 : xT.1 165 127 = some (.istore_n 2, ((0, 0), ([], []))) := (kT_165 127).trans rfl
set_option maxRecDepth 100000 in
theorem r_165_128 : xT.1 165 128 = some (.iload_n 2, ((0, 0), ([], []))) := (kT_165 128).trans rfl
set_option maxRecDepth 100000 in
theorem r_165_129 : xT.1 165 129 = some (.aload_n 0, ((0, 0), ([], []))) := (kT_165 129).trans rfl
set_option maxRecDepth 100000 in
theorem r_165_130 : xT.1 165 130 = some (.invokevirtual 34, ((95, 1), ([], [0]))) := (kT_165 130).trans rfl
set_option maxRecDepth 100000 in
theorem r_165_133 : xT.1 165 133 = some (.if_icmp .ge 106, ((239, 0), ([], []))) := (kT_165 133).trans rfl
set_option maxRecDepth 100000 in
theorem r_165_136 : xT.1 165 136 = some (.aload_n 0, ((0, 0), ([], []))) := (kT_165 136).trans rfl
set_option maxRecDepth 100000 in
theorem r_165_137 : xT.1 165 137 = some (.iload_n 2, ((0, 0), ([], []))) := (kT_165 137).trans rfl
set_option maxRecDepth 100000 in
theorem r_165_138 : xT.1 165 138 = some (.invokevirtual 37, ((96, 2), ([], [0]))) := (kT_165 138).trans rfl
set_option maxRecDepth 100000 in
theorem r_165_141 : xT.1 165 141 = some (.istore_n 3, ((0, 0), ([], []))) := (kT_165 141).trans rfl
set_option maxRecDepth 100000 in
theorem r_165_142 : xT.1 165 142 = some (.bipush 31, ((0, 0), ([.int 31], []))) := (kT_165 142).trans rfl
set_option maxRecDepth 100000 in
theorem r_165_144 : xT.1 165 144 = some (.bipush 31, ((0, 0), ([.int 31], []))) := (kT_165 144).trans rfl
set_option maxRecDepth 100000 in
theorem r_165_146 : xT.1 165 146 = some (.iload_n 1, ((0, 0), ([], []))) := (kT_165 146).trans rfl
set_option maxRecDepth 100000 in
theorem r_165_147 : xT.1 165 147 = some (.imul, ((0, 0), ([], []))) := (kT_165 147).trans rfl
set_option maxRecDepth 100000 in
theorem r_165_148 : xT.1 165 148 = some (.iload_n 3, ((0, 0), ([], []))) := (kT_165 148).trans rfl
set_option maxRecDepth 100000 in
theorem r_165_149 : xT.1 165 149 = some (.iadd, ((0, 0), ([], []))) := (kT_165 149).trans rfl
set_option maxRecDepth 100000 in
theorem r_165_150 : xT.1 165 150 = some (.imul, ((0, 0), ([], []))) := (kT_165 150).trans rfl
set_option maxRecDepth 100000 in
theorem r_165_151 : xT.1 165 151 = some (.aload_n 0, ((0, 0), ([], []))) := (kT_165 151).trans rfl
set_option maxRecDepth 100000 in
theorem r_165_152 : xT.1 165 152 = some (.iload_n 3, ((0, 0), ([], []))) := (kT_165 152).trans rfl
set_option maxRecDepth 100000 in
theorem r_165_153 : xT.1 165 153 = some (.invokevirtual 105, ((98, 2), ([], [0]))) := (kT_165 153).trans rfl
set_option maxRecDepth 100000 in
theorem r_165_156 : xT.1 165 156 = some (.iadd, ((0, 0), ([], []))) := (kT_165 156).trans rfl
set_option maxRecDepth 100000 in
theorem r_165_157 : xT.1 165 157 = some (.istore_n 1, ((0, 0), ([], []))) := (kT_165 157).trans rfl
set_option maxRecDepth 100000 in
theorem r_165_158 : xT.1 165 158 = some (.aload_n 0, ((0, 0), ([], []))) := (kT_165 158).trans rfl
set_option maxRecDepth 100000 in
theorem r_165_159 : xT.1 165 159 = some (.iload_n 3, ((0, 0), ([], []))) := (kT_165 159).trans rfl
set_option maxRecDepth 100000 in
theorem r_165_160 : xT.1 165 160 = some (.invokestatic 108, ((166, 2), ([], [1]))) := (kT_165 160).trans rfl
set_option maxRecDepth 100000 in
theorem r_165_163 : xT.1 165 163 = some (.astore 4, ((0, 0), ([], []))) := (kT_165 163).trans rfl
set_option maxRecDepth 100000 in
theorem r_165_165 : xT.1 165 165 = some (.aload 4, ((0, 0), ([], []))) := (kT_165 165).trans rfl
set_option maxRecDepth 100000 in
theorem r_165_167 : xT.1 165 167 = some (.arraylength, ((0, 0), ([], []))) := (kT_165 167).trans rfl
set_option maxRecDepth 100000 in
theorem r_165_168 : xT.1 165 168 = some (.istore 5, ((0, 0), ([], []))) := (kT_165 168).trans rfl
set_option maxRecDepth 100000 in
theorem r_165_170 : xT.1 165 170 = some (.iconst 0, ((0, 0), ([.int 0], []))) := (kT_165 170).trans rfl
set_option maxRecDepth 100000 in
theorem r_165_171 : xT.1 165 171 = some (.istore 6, ((0, 0), ([], []))) := (kT_165 171).trans rfl
set_option maxRecDepth 100000 in
theorem r_165_173 : xT.1 165 173 = some (.iload 6, ((0, 0), ([], []))) := (kT_165 173).trans rfl
set_option maxRecDepth 100000 in
theorem r_165_175 : xT.1 165 175 = some (.iload 5, ((0, 0), ([], []))) := (kT_165 175).trans rfl
set_option maxRecDepth 100000 in
theorem r_165_177 : xT.1 165 177 = some (.if_icmp .ge 56, ((233, 0), ([], []))) := (kT_165 177).trans rfl
set_option maxRecDepth 100000 in
theorem r_165_180 : xT.1 165 180 = some (.aload 4, ((0, 0), ([], []))) := (kT_165 180).trans rfl
set_option maxRecDepth 100000 in
theorem r_165_182 : xT.1 165 182 = some (.iload 6, ((0, 0), ([], []))) := (kT_165 182).trans rfl
set_option maxRecDepth 100000 in
theorem r_165_184 : xT.1 165 184 = some (.aaload, ((0, 0), ([], []))) := (kT_165 184).trans rfl
set_option maxRecDepth 100000 in
theorem r_165_185 : xT.1 165 185 = some (.astore 7, ((0, 0), ([], []))) := (kT_165 185).trans rfl
set_option maxRecDepth 100000 in
theorem r_165_187 : xT.1 165 187 = some (.aload 7, ((0, 0), ([], []))) := (kT_165 187).trans rfl
set_option maxRecDepth 100000 in
theorem r_165_189 : xT.1 165 189 = some (.astore 8, ((0, 0), ([], []))) := (kT_165 189).trans rfl
set_option maxRecDepth 100000 in
theorem r_165_191 : xT.1 165 191 = some (.aload 8, ((0, 0), ([], []))) := (kT_165 191).trans rfl
set_option maxRecDepth 100000 in
theorem r_165_193 : xT.1 165 193 = some (.arraylength, ((0, 0), ([], []))) := (kT_165 193).trans rfl
set_option maxRecDepth 100000 in
theorem r_165_194 : xT.1 165 194 = some (.istore 9, ((0, 0), ([], []))) := (kT_165 194).trans rfl
set_option maxRecDepth 100000 in
theorem r_165_196 : xT.1 165 196 = some (.iconst 0, ((0, 0), ([.int 0], []))) := (kT_165 196).trans rfl
set_option maxRecDepth 100000 in
theorem r_165_197 : xT.1 165 197 = some (.istore 10, ((0, 0), ([], []))) := (kT_165 197).trans rfl
set_option maxRecDepth 100000 in
theorem r_165_199 : xT.1 165 199 = some (.iload 10, ((0, 0), ([], []))) := (kT_165 199).trans rfl
set_option maxRecDepth 100000 in
theorem r_165_201 : xT.1 165 201 = some (.iload 9, ((0, 0), ([], []))) := (kT_165 201).trans rfl
set_option maxRecDepth 100000 in
theorem r_165_203 : xT.1 165 203 = some (.if_icmp .ge 24, ((227, 0), ([], []))) := (kT_165 203).trans rfl
set_option maxRecDepth 100000 in
theorem r_165_206 : xT.1 165 206 = some (.aload 8, ((0, 0), ([], []))) := (kT_165 206).trans rfl
set_option maxRecDepth 100000 in
theorem r_165_208 : xT.1 165 208 = some (.iload 10, ((0, 0), ([], []))) := (kT_165 208).trans rfl
set_option maxRecDepth 100000 in
theorem r_165_210 : xT.1 165 210 = some (.iaload, ((0, 0), ([], []))) := (kT_165 210).trans rfl
set_option maxRecDepth 100000 in
theorem r_165_211 : xT.1 165 211 = some (.istore 11, ((0, 0), ([], []))) := (kT_165 211).trans rfl
set_option maxRecDepth 100000 in
theorem r_165_213 : xT.1 165 213 = some (.bipush 31, ((0, 0), ([.int 31], []))) := (kT_165 213).trans rfl
set_option maxRecDepth 100000 in
theorem r_165_215 : xT.1 165 215 = some (.iload_n 1, ((0, 0), ([], []))) := (kT_165 215).trans rfl
set_option maxRecDepth 100000 in
theorem r_165_216 : xT.1 165 216 = some (.imul, ((0, 0), ([], []))) := (kT_165 216).trans rfl
set_option maxRecDepth 100000 in
theorem r_165_217 : xT.1 165 217 = some (.iload 11, ((0, 0), ([], []))) := (kT_165 217).trans rfl
set_option maxRecDepth 100000 in
theorem r_165_219 : xT.1 165 219 = some (.iadd, ((0, 0), ([], []))) := (kT_165 219).trans rfl
set_option maxRecDepth 100000 in
theorem r_165_220 : xT.1 165 220 = some (.istore_n 1, ((0, 0), ([], []))) := (kT_165 220).trans rfl
set_option maxRecDepth 100000 in
theorem r_165_221 : xT.1 165 221 = some (.iinc 10 1, ((0, 0), ([.int (1)], []))) := (kT_165 221).trans rfl
set_option maxRecDepth 100000 in
theorem r_165_224 : xT.1 165 224 = some (.goto (-25), ((199, 0), ([], []))) := (kT_165 224).trans rfl
set_option maxRecDepth 100000 in
theorem r_165_227 : xT.1 165 227 = some (.iinc 6 1, ((0, 0), ([.int (1)], []))) := (kT_165 227).trans rfl
set_option maxRecDepth 100000 in
theorem r_165_230 : xT.1 165 230 = some (.goto (-57), ((173, 0), ([], []))) := (kT_165 230).trans rfl
set_option maxRecDepth 100000 in
theorem r_165_233 : xT.1 165 233 = some (.iinc 2 1, ((0, 0), ([.int (1)], []))) := (kT_165 233).trans rfl
set_option maxRecDepth 100000 in
theorem r_165_236 : xT.1 165 236 = some (.goto (-108), ((128, 0), ([], []))) := (kT_165 236).trans rfl
set_option maxRecDepth 100000 in
theorem r_165_239 : xT.1 165 239 = some (.bipush 31, ((0, 0), ([.int 31], []))) := (kT_165 239).trans rfl
set_option maxRecDepth 100000 in
theorem r_165_241 : xT.1 165 241 = some (.iload_n 1, ((0, 0), ([], []))) := (kT_165 241).trans rfl
set_option maxRecDepth 100000 in
theorem r_165_242 : xT.1 165 242 = some (.imul, ((0, 0), ([], []))) := (kT_165 242).trans rfl
set_option maxRecDepth 100000 in
theorem r_165_243 : xT.1 165 243 = some (.aload_n 0, ((0, 0), ([], []))) := (kT_165 243).trans rfl
set_option maxRecDepth 100000 in
theorem r_165_244 : xT.1 165 244 = some (.invokevirtual 80, ((90, 1), ([], [0]))) := (kT_165 244).trans rfl
set_option maxRecDepth 100000 in
theorem r_165_247 : xT.1 165 247 = some (.iadd, ((0, 0), ([], []))) := (kT_165 247).trans rfl
set_option maxRecDepth 100000 in
theorem r_165_248 : xT.1 165 248 = some (.ireturn, ((0, 0), ([], []))) := (kT_165 248).trans rfl
theorem kT_166 (pc : Nat) : xT.1 166 pc = xfind k_166 pc := rfl
theorem r_166_0 : xT.1 166 0 = some (.aload_n 0, ((0, 0), ([], []))) := (kT_166 0).trans rfl
theorem r_166_1 : xT.1 166 1 = some (.iload_n 1, ((0, 0), ([], []))) := (kT_166 1).trans rfl
theorem r_166_2 : xT.1 166 2 = some (.invokevirtual 112, ((99, 2), ([], [0]))) := (kT_166 2).trans rfl
theorem r_166_5 : xT.1 166 5 = some (.anewarray 115, ((0, 0), ([], [6]))) := (kT_166 5).trans rfl
theorem r_166_8 : xT.1 166 8 = some (.astore_n 2, ((0, 0), ([], []))) := (kT_166 8).trans rfl
theorem r_166_9 : xT.1 166 9 = some (.iconst 0, ((0, 0), ([.int 0], []))) := (kT_166 9).trans rfl
theorem r_166_10 : xT.1 166 10 = some (.istore_n 3, ((0, 0), ([], []))) := (kT_166 10).trans rfl
theorem r_166_11 : xT.1 166 11 = some (.iload_n 3, ((0, 0), ([], []))) := (kT_166 11).trans rfl
theorem r_166_12 : xT.1 166 12 = some (.aload_n 2, ((0, 0), ([], []))) := (kT_166 12).trans rfl
theorem r_166_13 : xT.1 166 13 = some (.arraylength, ((0, 0), ([], []))) := (kT_166 13).trans rfl
theorem r_166_14 : xT.1 166 14 = some (.if_icmp .ge 68, ((82, 0), ([], []))) := (kT_166 14).trans rfl
theorem r_166_17 : xT.1 166 17 = some (.aload_n 0, ((0, 0), ([], []))) := (kT_166 17).trans rfl
theorem r_166_18 : xT.1 166 18 = some (.iload_n 1, ((0, 0), ([], []))) := (kT_166 18).trans rfl
theorem r_166_19 : xT.1 166 19 = some (.iload_n 3, ((0, 0), ([], []))) := (kT_166 19).trans rfl
theorem r_166_20 : xT.1 166 20 = some (.invokevirtual 117, ((100, 3), ([], [0]))) := (kT_166 20).trans rfl
theorem r_166_23 : xT.1 166 23 = some (.istore 4, ((0, 0), ([], []))) := (kT_166 23).trans rfl
theorem r_166_25 : xT.1 166 25 = some (.aload_n 2, ((0, 0), ([], []))) := (kT_166 25).trans rfl
theorem r_166_26 : xT.1 166 26 = some (.iload_n 3, ((0, 0), ([], []))) := (kT_166 26).trans rfl
theorem r_166_27 : xT.1 166 27 = some (.iconst 5, ((0, 0), ([.int 5], []))) := (kT_166 27).trans rfl
theorem r_166_28 : xT.1 166 28 = some (.newarray .int, ((0, 0), ([], []))) := (kT_166 28).trans rfl
theorem r_166_30 : xT.1 166 30 = some (.dup, ((0, 0), ([], []))) := (kT_166 30).trans rfl
theorem r_166_31 : xT.1 166 31 = some (.iconst 0, ((0, 0), ([.int 0], []))) := (kT_166 31).trans rfl
theorem r_166_32 : xT.1 166 32 = some (.iload 4, ((0, 0), ([], []))) := (kT_166 32).trans rfl
theorem r_166_34 : xT.1 166 34 = some (.iastore, ((0, 0), ([], []))) := (kT_166 34).trans rfl
theorem r_166_35 : xT.1 166 35 = some (.dup, ((0, 0), ([], []))) := (kT_166 35).trans rfl
theorem r_166_36 : xT.1 166 36 = some (.iconst 1, ((0, 0), ([.int 1], []))) := (kT_166 36).trans rfl
theorem r_166_37 : xT.1 166 37 = some (.aload_n 0, ((0, 0), ([], []))) := (kT_166 37).trans rfl
theorem r_166_38 : xT.1 166 38 = some (.iload 4, ((0, 0), ([], []))) := (kT_166 38).trans rfl
theorem r_166_40 : xT.1 166 40 = some (.iload_n 1, ((0, 0), ([], []))) := (kT_166 40).trans rfl
theorem r_166_41 : xT.1 166 41 = some (.invokevirtual 121, ((102, 3), ([], [0]))) := (kT_166 41).trans rfl
theorem r_166_44 : xT.1 166 44 = some (.iastore, ((0, 0), ([], []))) := (kT_166 44).trans rfl
theorem r_166_45 : xT.1 166 45 = some (.dup, ((0, 0), ([], []))) := (kT_166 45).trans rfl
theorem r_166_46 : xT.1 166 46 = some (.iconst 2, ((0, 0), ([.int 2], []))) := (kT_166 46).trans rfl
theorem r_166_47 : xT.1 166 47 = some (.aload_n 0, ((0, 0), ([], []))) := (kT_166 47).trans rfl
theorem r_166_48 : xT.1 166 48 = some (.iload 4, ((0, 0), ([], []))) := (kT_166 48).trans rfl
theorem r_166_50 : xT.1 166 50 = some (.iload_n 1, ((0, 0), ([], []))) := (kT_166 50).trans rfl
theorem r_166_51 : xT.1 166 51 = some (.invokevirtual 124, ((103, 3), ([], [0]))) := (kT_166 51).trans rfl
theorem r_166_54 : xT.1 166 54 = some (.iastore, ((0, 0), ([], []))) := (kT_166 54).trans rfl
theorem r_166_55 : xT.1 166 55 = some (.dup, ((0, 0), ([], []))) := (kT_166 55).trans rfl
theorem r_166_56 : xT.1 166 56 = some (.iconst 3, ((0, 0), ([.int 3], []))) := (kT_166 56).trans rfl
theorem r_166_57 : xT.1 166 57 = some (.aload_n 0, ((0, 0), ([], []))) := (kT_166 57).trans rfl
theorem r_166_58 : xT.1 166 58 = some (.iload 4, ((0, 0), ([], []))) := (kT_166 58).trans rfl
theorem r_166_60 : xT.1 166 60 = some (.iload_n 1, ((0, 0), ([], []))) := (kT_166 60).trans rfl
theorem r_166_61 : xT.1 166 61 = some (.invokevirtual 127, ((104, 3), ([], [0]))) := (kT_166 61).trans rfl
theorem r_166_64 : xT.1 166 64 = some (.iastore, ((0, 0), ([], []))) := (kT_166 64).trans rfl
theorem r_166_65 : xT.1 166 65 = some (.dup, ((0, 0), ([], []))) := (kT_166 65).trans rfl
theorem r_166_66 : xT.1 166 66 = some (.iconst 4, ((0, 0), ([.int 4], []))) := (kT_166 66).trans rfl
theorem r_166_67 : xT.1 166 67 = some (.aload_n 0, ((0, 0), ([], []))) := (kT_166 67).trans rfl
theorem r_166_68 : xT.1 166 68 = some (.iload 4, ((0, 0), ([], []))) := (kT_166 68).trans rfl
theorem r_166_70 : xT.1 166 70 = some (.iload_n 1, ((0, 0), ([], []))) := (kT_166 70).trans rfl
theorem r_166_71 : xT.1 166 71 = some (.invokevirtual 130, ((105, 3), ([], [0]))) := (kT_166 71).trans rfl
theorem r_166_74 : xT.1 166 74 = some (.iastore, ((0, 0), ([], []))) := (kT_166 74).trans rfl
theorem r_166_75 : xT.1 166 75 = some (.aastore, ((0, 0), ([], [6]))) := (kT_166 75).trans rfl
theorem r_166_76 : xT.1 166 76 = some (.iinc 3 1, ((0, 0), ([.int (1)], []))) := (kT_166 76).trans rfl
theorem r_166_79 : xT.1 166 79 = some (.goto (-68), ((11, 0), ([], []))) := (kT_166 79).trans rfl
theorem r_166_82 : xT.1 166 82 = some (.aload_n 2, ((0, 0), ([], []))) := (kT_166 82).trans rfl
theorem r_166_83 : xT.1 166 83 = some (.areturn, ((0, 0), ([], []))) := (kT_166 83).trans rfl
theorem kT_167 (pc : Nat) : xT.1 167 pc = xfind k_167 pc := rfl
theorem r_167_0 : xT.1 167 0 = some (.iload_n 1, ((0, 0), ([], []))) := (kT_167 0).trans rfl
theorem r_167_1 : xT.1 167 1 = some (.aload_n 2, ((0, 0), ([], []))) := (kT_167 1).trans rfl
theorem r_167_2 : xT.1 167 2 = some (.invokevirtual 7, ((312, 1), ([], [0]))) := (kT_167 2).trans rfl
theorem r_167_5 : xT.1 167 5 = some (.if_icmp .eq 5, ((10, 0), ([], []))) := (kT_167 5).trans rfl
theorem r_167_8 : xT.1 167 8 = some (.iconst 0, ((0, 0), ([.int 0], []))) := (kT_167 8).trans rfl
theorem r_167_9 : xT.1 167 9 = some (.ireturn, ((0, 0), ([], []))) := (kT_167 9).trans rfl
theorem r_167_10 : xT.1 167 10 = some (.iconst 0, ((0, 0), ([.int 0], []))) := (kT_167 10).trans rfl
theorem r_167_11 : xT.1 167 11 = some (.istore_n 3, ((0, 0), ([], []))) := (kT_167 11).trans rfl
theorem r_167_12 : xT.1 167 12 = some (.iload_n 3, ((0, 0), ([], []))) := (kT_167 12).trans rfl
theorem r_167_13 : xT.1 167 13 = some (.iload_n 1, ((0, 0), ([], []))) := (kT_167 13).trans rfl
theorem r_167_14 : xT.1 167 14 = some (.if_icmp .ge 24, ((38, 0), ([], []))) := (kT_167 14).trans rfl
theorem r_167_17 : xT.1 167 17 = some (.aload_n 0, ((0, 0), ([], []))) := (kT_167 17).trans rfl
theorem r_167_18 : xT.1 167 18 = some (.iload_n 3, ((0, 0), ([], []))) := (kT_167 18).trans rfl
theorem r_167_19 : xT.1 167 19 = some (.invokevirtual 277, ((130, 2), ([], [0]))) := (kT_167 19).trans rfl
theorem r_167_22 : xT.1 167 22 = some (.aload_n 2, ((0, 0), ([], []))) := (kT_167 22).trans rfl
theorem r_167_23 : xT.1 167 23 = some (.iload_n 3, ((0, 0), ([], []))) := (kT_167 23).trans rfl
theorem r_167_24 : xT.1 167 24 = some (.invokevirtual 13, ((313, 2), ([], [0]))) := (kT_167 24).trans rfl
theorem r_167_27 : xT.1 167 27 = some (.if_icmp .eq 5, ((32, 0), ([], []))) := (kT_167 27).trans rfl
theorem r_167_30 : xT.1 167 30 = some (.iconst 0, ((0, 0), ([.int 0], []))) := (kT_167 30).trans rfl
theorem r_167_31 : xT.1 167 31 = some (.ireturn, ((0, 0), ([], []))) := (kT_167 31).trans rfl
theorem r_167_32 : xT.1 167 32 = some (.iinc 3 1, ((0, 0), ([.int (1)], []))) := (kT_167 32).trans rfl
theorem r_167_35 : xT.1 167 35 = some (.goto (-23), ((12, 0), ([], []))) := (kT_167 35).trans rfl
theorem r_167_38 : xT.1 167 38 = some (.iconst 1, ((0, 0), ([.int 1], []))) := (kT_167 38).trans rfl
theorem r_167_39 : xT.1 167 39 = some (.ireturn, ((0, 0), ([], []))) := (kT_167 39).trans rfl
theorem kT_168 (pc : Nat) : xT.1 168 pc = xfind k_168 pc := rfl
theorem r_168_0 : xT.1 168 0 = some (.aload_n 0, ((0, 0), ([], []))) := (kT_168 0).trans rfl
theorem r_168_1 : xT.1 168 1 = some (.invokevirtual 150, ((126, 1), ([], [0]))) := (kT_168 1).trans rfl
theorem r_168_4 : xT.1 168 4 = some (.ireturn, ((0, 0), ([], []))) := (kT_168 4).trans rfl
theorem r_168_5 : xT.1 168 5 = some (.astore_n 1, ((0, 0), ([], []))) := (kT_168 5).trans rfl
theorem r_168_6 : xT.1 168 6 = some (.iconst (-1), ((0, 0), ([.int (-1)], []))) := (kT_168 6).trans rfl
theorem r_168_7 : xT.1 168 7 = some (.ireturn, ((0, 0), ([], []))) := (kT_168 7).trans rfl
theorem r_168_8 : xT.1 168 8 = some (.astore_n 1, ((0, 0), ([], []))) := (kT_168 8).trans rfl
theorem r_168_9 : xT.1 168 9 = some (.bipush (-2), ((0, 0), ([.int (-2)], []))) := (kT_168 9).trans rfl
theorem r_168_11 : xT.1 168 11 = some (.ireturn, ((0, 0), ([], []))) := (kT_168 11).trans rfl
theorem kT_169 (pc : Nat) : xT.1 169 pc = xfind k_169 pc := rfl
theorem r_169_0 : xT.1 169 0 = some (.aload_n 0, ((0, 0), ([], []))) := (kT_169 0).trans rfl
theorem r_169_1 : xT.1 169 1 = some (.aload_n 1, ((0, 0), ([], []))) := (kT_169 1).trans rfl
theorem r_169_2 : xT.1 169 2 = some (.invokestatic 146, ((161, 2), ([], [1]))) := (kT_169 2).trans rfl
theorem r_169_5 : xT.1 169 5 = some (.aload_n 0, ((0, 0), ([], []))) := (kT_169 5).trans rfl
theorem r_169_6 : xT.1 169 6 = some (.invokestatic 159, ((168, 1), ([], [3]))) := (kT_169 6).trans rfl
theorem r_169_9 : xT.1 169 9 = some (.iconst (-1), ((0, 0), ([.int (-1)], []))) := (kT_169 9).trans rfl
theorem r_169_10 : xT.1 169 10 = some (.if_icmp .ne 15, ((25, 0), ([], []))) := (kT_169 10).trans rfl
theorem r_169_13 : xT.1 169 13 = some (.aload_n 0, ((0, 0), ([], []))) := (kT_169 13).trans rfl
theorem r_169_14 : xT.1 169 14 = some (.invokevirtual 280, ((127, 1), ([], [0]))) := (kT_169 14).trans rfl
theorem r_169_17 : xT.1 169 17 = some (.iload_n 2, ((0, 0), ([], []))) := (kT_169 17).trans rfl
theorem r_169_18 : xT.1 169 18 = some (.if_icmp .ne 7, ((25, 0), ([], []))) := (kT_169 18).trans rfl
theorem r_169_21 : xT.1 169 21 = some (.iconst 1, ((0, 0), ([.int 1], []))) := (kT_169 21).trans rfl
theorem r_169_22 : xT.1 169 22 = some (.goto 4, ((26, 0), ([], []))) := (kT_169 22).trans rfl
theorem r_169_25 : xT.1 169 25 = some (.iconst 0, ((0, 0), ([.int 0], []))) := (kT_169 25).trans rfl
theorem r_169_26 : xT.1 169 26 = some (.ireturn, ((0, 0), ([], []))) := (kT_169 26).trans rfl
