/-! the rows of the tables, one by one -/
theorem kT_129 (pc : Nat) : xT.1 129 pc = xfind k_129 pc := rfl
theorem r_129_0 : xT.1 129 0 = some (.aload_n 0, ((0, 0), ([], []))) := (kT_129 0).trans rfl
theorem r_129_1 : xT.1 129 1 = some (.iload_n 1, ((0, 0), ([], []))) := (kT_129 1).trans rfl
theorem r_129_2 : xT.1 129 2 = some (.invokevirtual 153, ((140, 2), ([], [0]))) := (kT_129 2).trans rfl
theorem r_129_5 : xT.1 129 5 = some (.astore_n 2, ((0, 0), ([], []))) := (kT_129 5).trans rfl
theorem r_129_6 : xT.1 129 6 = some (.aload_n 0, ((0, 0), ([], []))) := (kT_129 6).trans rfl
theorem r_129_7 : xT.1 129 7 = some (.getfield 43, ((8, 5), ([], []))) := (kT_129 7).trans rfl
theorem r_129_10 : xT.1 129 10 = some (.iconst 0, ((0, 0), ([.int 0], []))) := (kT_129 10).trans rfl
theorem r_129_11 : xT.1 129 11 = some (.invokevirtual 340, ((296, 2), ([], [0]))) := (kT_129 11).trans rfl
theorem r_129_14 : xT.1 129 14 = some (.aload_n 0, ((0, 0), ([], []))) := (kT_129 14).trans rfl
theorem r_129_15 : xT.1 129 15 = some (.getfield 43, ((8, 5), ([], []))) := (kT_129 15).trans rfl
theorem r_129_18 : xT.1 129 18 = some (.bipush 113, ((0, 0), ([.int 113], []))) := (kT_129 18).trans rfl
theorem r_129_20 : xT.1 129 20 = some (.invokevirtual 343, ((293, 2), ([], [0]))) := (kT_129 20).trans rfl
theorem r_129_23 : xT.1 129 23 = some (.aload_n 2, ((0, 0), ([], []))) := (kT_129 23).trans rfl
theorem r_129_24 : xT.1 129 24 = some (.getfield 143, ((7, 1), ([], []))) := (kT_129 24).trans rfl
theorem r_129_27 : xT.1 129 27 = some (.invokevirtual 346, ((294, 2), ([], [0]))) := (kT_129 27).trans rfl
theorem r_129_30 : xT.1 129 30 = some (.bipush 119, ((0, 0), ([.int 119], []))) := (kT_129 30).trans rfl
theorem r_129_32 : xT.1 129 32 = some (.invokevirtual 343, ((293, 2), ([], [0]))) := (kT_129 32).trans rfl
theorem r_129_35 : xT.1 129 35 = some (.aload_n 2, ((0, 0), ([], []))) := (kT_129 35).trans rfl
theorem r_129_36 : xT.1 129 36 = some (.getfield 157, ((7, 2), ([], []))) := (kT_129 36).trans rfl
theorem r_129_39 : xT.1 129 39 = some (.invokevirtual 346, ((294, 2), ([], [0]))) := (kT_129 39).trans rfl
theorem r_129_42 : xT.1 129 42 = some (.pop, ((0, 0), ([], []))) := (kT_129 42).trans rfl
theorem r_129_43 : xT.1 129 43 = some (.iconst 0, ((0, 0), ([.int 0], []))) := (kT_129 43).trans rfl
theorem r_129_44 : xT.1 129 44 = some (.istore_n 3, ((0, 0), ([], []))) := (kT_129 44).trans rfl
theorem r_129_45 : xT.1 129 45 = some (.iload_n 3, ((0, 0), ([], []))) := (kT_129 45).trans rfl
theorem r_129_46 : xT.1 129 46 = some (.aload_n 2, ((0, 0), ([], []))) := (kT_129 46).trans rfl
theorem r_129_47 : xT.1 129 47 = some (.getfield 160, ((7, 3), ([], []))) := (kT_129 47).trans rfl
theorem r_129_50 : xT.1 129 50 = some (.if_icmp .ge 19, ((69, 0), ([], []))) := (kT_129 50).trans rfl
theorem r_129_53 : xT.1 129 53 = some (.aload_n 0, ((0, 0), ([], []))) := (kT_129 53).trans rfl
theorem r_129_54 : xT.1 129 54 = some (.aload_n 2, ((0, 0), ([], []))) := (kT_129 54).trans rfl
theorem r_129_55 : xT.1 129 55 = some (.getfield 168, ((7, 0), ([], []))) := (kT_129 55).trans rfl
theorem r_129_58 : xT.1 129 58 = some (.iload_n 3, ((0, 0), ([], []))) := (kT_129 58).trans rfl
theorem r_129_59 : xT.1 129 59 = some (.aaload, ((0, 0), ([], []))) := (kT_129 59).trans rfl
theorem r_129_60 : xT.1 129 60 = some (.invokevirtual 349, ((147, 2), ([], [0]))) := (kT_129 60).trans rfl
theorem r_129_63 : xT.1 129 63 = some (.iinc 3 1, ((0, 0), ([.int (1)], []))) := (kT_129 63).trans rfl
theorem r_129_66 : xT.1 129 66 = some (.goto (-21), ((45, 0), ([], []))) := (kT_129 66).trans rfl
theorem r_129_69 : xT.1 129 69 = some (.aload_n 0, ((0, 0), ([], []))) := (kT_129 69).trans rfl
theorem r_129_70 : xT.1 129 70 = some (.getfield 43, ((8, 5), ([], []))) := (kT_129 70).trans rfl
theorem r_129_73 : xT.1 129 73 = some (.invokevirtual 353, ((297, 1), ([], [0]))) := (kT_129 73).trans rfl
theorem r_129_76 : xT.1 129 76 = some (.ireturn, ((0, 0), ([], []))) := (kT_129 76).trans rfl
theorem kT_130 (pc : Nat) : xT.1 130 pc = xfind k_130 pc := rfl
theorem r_130_0 : xT.1 130 0 = some (.iload_n 1, ((0, 0), ([], []))) := (kT_130 0).trans rfl
theorem r_130_1 : xT.1 130 1 = some (.ifCond .lt 14, ((15, 0), ([], []))) := (kT_130 1).trans rfl
theorem r_130_4 : xT.1 130 4 = some (.iload_n 1, ((0, 0), ([], []))) := (kT_130 4).trans rfl
theorem r_130_5 : xT.1 130 5 = some (.aload_n 0, ((0, 0), ([], []))) := (kT_130 5).trans rfl
theorem r_130_6 : xT.1 130 6 = some (.getfield 43, ((8, 5), ([], []))) := (kT_130 6).trans rfl
theorem r_130_9 : xT.1 130 9 = some (.invokevirtual 353, ((297, 1), ([], [0]))) := (kT_130 9).trans rfl
theorem r_130_12 : xT.1 130 12 = some (.if_icmp .lt 14, ((26, 0), ([], []))) := (kT_130 12).trans rfl
theorem r_130_15 : xT.1 130 15 = some (.new 163, ((2, 0), ([], [7]))) := (kT_130 15).trans rfl
theorem r_130_26 : xT.1 130 26 = some (.aload_n 0, ((0, 0), ([], []))) := (kT_130 26).trans rfl
theorem r_130_27 : xT.1 130 27 = some (.getfield 43, ((8, 5), ([], []))) := (kT_130 27).trans rfl
theorem r_130_30 : xT.1 130 30 = some (.iload_n 1, ((0, 0), ([], []))) := (kT_130 30).trans rfl
theorem r_130_31 : xT.1 130 31 = some (.invokevirtual 358, ((295, 2), ([], [0]))) := (kT_130 31).trans rfl
theorem r_130_34 : xT.1 130 34 = some (.ireturn, ((0, 0), ([], []))) := (kT_130 34).trans rfl
theorem kT_131 (pc : Nat) : xT.1 131 pc = xfind k_131 pc := rfl
theorem r_131_0 : xT.1 131 0 = some (.aload_n 0, ((0, 0), ([], []))) := (kT_131 0).trans rfl
theorem r_131_1 : xT.1 131 1 = some (.getfield 22, ((8, 2), ([], []))) := (kT_131 1).trans rfl
theorem r_131_4 : xT.1 131 4 = some (.getfield 362, ((5, 2), ([], []))) := (kT_131 4).trans rfl
theorem r_131_7 : xT.1 131 7 = some (.ireturn, ((0, 0), ([], []))) := (kT_131 7).trans rfl
theorem kT_132 (pc : Nat) : xT.1 132 pc = xfind k_132 pc := rfl
theorem r_132_0 : xT.1 132 0 = some (.aload_n 0, ((0, 0), ([], []))) := (kT_132 0).trans rfl
theorem r_132_1 : xT.1 132 1 = some (.getfield 22, ((8, 2), ([], []))) := (kT_132 1).trans rfl
theorem r_132_4 : xT.1 132 4 = some (.getfield 362, ((5, 2), ([], []))) := (kT_132 4).trans rfl
theorem r_132_7 : xT.1 132 7 = some (.ifCond .ne 14, ((21, 0), ([], []))) := (kT_132 7).trans rfl
theorem r_132_10 : xT.1 132 10 = some (.new 299, ((0, 0), ([], [7]))) := (kT_132 10).trans rfl
theorem r_132_21 : xT.1 132 21 = some (.aload_n 0, ((0, 0), ([], []))) := (kT_132 21).trans rfl
theorem r_132_22 : xT.1 132 22 = some (.getfield 22, ((8, 2), ([], []))) := (kT_132 22).trans rfl
theorem r_132_25 : xT.1 132 25 = some (.aload_n 0, ((0, 0), ([], []))) := (kT_132 25).trans rfl
theorem r_132_26 : xT.1 132 26 = some (.getfield 10, ((8, 0), ([], []))) := (kT_132 26).trans rfl
theorem r_132_29 : xT.1 132 29 = some (.invokevirtual 365, ((69, 2), ([], [0]))) := (kT_132 29).trans rfl
theorem r_132_32 : xT.1 132 32 = some (.aload_n 0, ((0, 0), ([], []))) := (kT_132 32).trans rfl
theorem r_132_33 : xT.1 132 33 = some (.getfield 22, ((8, 2), ([], []))) := (kT_132 33).trans rfl
theorem r_132_36 : xT.1 132 36 = some (.getfield 362, ((5, 2), ([], []))) := (kT_132 36).trans rfl
theorem r_132_39 : xT.1 132 39 = some (.ireturn, ((0, 0), ([], []))) := (kT_132 39).trans rfl
theorem kT_133 (pc : Nat) : xT.1 133 pc = xfind k_133 pc := rfl
theorem r_133_0 : xT.1 133 0 = some (.aload_n 0, ((0, 0), ([], []))) := (kT_133 0).trans rfl
theorem r_133_1 : xT.1 133 1 = some (.getfield 16, ((8, 1), ([], []))) := (kT_133 1).trans rfl
theorem r_133_4 : xT.1 133 4 = some (.aload_n 0, ((0, 0), ([], []))) := (kT_133 4).trans rfl
theorem r_133_5 : xT.1 133 5 = some (.getfield 10, ((8, 0), ([], []))) := (kT_133 5).trans rfl
theorem r_133_8 : xT.1 133 8 = some (.invokevirtual 368, ((11, 2), ([], [0]))) := (kT_133 8).trans rfl
theorem r_133_11 : xT.1 133 11 = some (.aload_n 0, ((0, 0), ([], []))) := (kT_133 11).trans rfl
theorem r_133_12 : xT.1 133 12 = some (.iconst 1, ((0, 0), ([.int 1], []))) := (kT_133 12).trans rfl
theorem r_133_13 : xT.1 133 13 = some (.putfield 47, ((8, 6), ([], [1]))) := (kT_133 13).trans rfl
theorem r_133_16 : xT.1 133 16 = some (.aload_n 0, ((0, 0), ([], []))) := (kT_133 16).trans rfl
theorem r_133_17 : xT.1 133 17 = some (.getfield 10, ((8, 0), ([], []))) := (kT_133 17).trans rfl
theorem r_133_20 : xT.1 133 20 = some (.getfield 129, ((1, 5), ([], []))) := (kT_133 20).trans rfl
theorem r_133_23 : xT.1 133 23 = some (.ireturn, ((0, 0), ([], []))) := (kT_133 23).trans rfl
theorem kT_134 (pc : Nat) : xT.1 134 pc = xfind k_134 pc := rfl
theorem r_134_0 : xT.1 134 0 = some (.aload_n 0, ((0, 0), ([], []))) := (kT_134 0).trans rfl
theorem r_134_1 : xT.1 134 1 = some (.getfield 47, ((8, 6), ([], []))) := (kT_134 1).trans rfl
theorem r_134_4 : xT.1 134 4 = some (.ifCond .ne 14, ((18, 0), ([], []))) := (kT_134 4).trans rfl
theorem r_134_7 : xT.1 134 7 = some (.new 299, ((0, 0), ([], [7]))) := (kT_134 7).trans rfl
theorem r_134_18 : xT.1 134 18 = some (.aload_n 0, ((0, 0), ([], []))) := (kT_134 18).trans rfl
theorem r_134_19 : xT.1 134 19 = some (.getfield 10, ((8, 0), ([], []))) := (kT_134 19).trans rfl
theorem r_134_22 : xT.1 134 22 = some (.aload_n 0, ((0, 0), ([], []))) := (kT_134 22).trans rfl
theorem r_134_23 : xT.1 134 23 = some (.getfield 16, ((8, 1), ([], []))) := (kT_134 23).trans rfl
theorem r_134_26 : xT.1 134 26 = some (.invokevirtual 368, ((11, 2), ([], [0]))) := (kT_134 26).trans rfl
theorem r_134_29 : xT.1 134 29 = some (.aload_n 0, ((0, 0), ([], []))) := (kT_134 29).trans rfl
theorem r_134_30 : xT.1 134 30 = some (.getfield 22, ((8, 2), ([], []))) := (kT_134 30).trans rfl
theorem r_134_33 : xT.1 134 33 = some (.invokevirtual 373, ((70, 1), ([], [0]))) := (kT_134 33).trans rfl
theorem r_134_36 : xT.1 134 36 = some (.aload_n 0, ((0, 0), ([], []))) := (kT_134 36).trans rfl
theorem r_134_37 : xT.1 134 37 = some (.getfield 10, ((8, 0), ([], []))) := (kT_134 37).trans rfl
theorem r_134_40 : xT.1 134 40 = some (.getfield 129, ((1, 5), ([], []))) := (kT_134 40).trans rfl
theorem r_134_43 : xT.1 134 43 = some (.ireturn, ((0, 0), ([], []))) := (kT_134 43).trans rfl
theorem kT_135 (pc : Nat) : xT.1 135 pc = xfind k_135 pc := rfl
theorem r_135_0 : xT.1 135 0 = some (.getstatic 374, ((0, 0), ([.ref 13], []))) := (kT_135 0).trans rfl
theorem r_135_3 : xT.1 135 3 = some (.aload_n 0, ((0, 0), ([], []))) := (kT_135 3).trans rfl
theorem r_135_4 : xT.1 135 4 = some (.invokevirtual 379, ((1, 1), ([], [4]))) := (kT_135 4).trans rfl
theorem r_135_7 : xT.1 135 7 = some (.iaload, ((0, 0), ([], []))) := (kT_135 7).trans rfl
theorem r_135_8 : xT.1 135 8 = some (.tableswitch 90 1 5 #[36, 47, 57, 68, 79], ((98, 36), ([], [44, 55, 65, 76, 87]))) := (kT_135 8).trans rfl
theorem r_135_44 : xT.1 135 44 = some (.new 163, ((2, 0), ([], [7]))) := (kT_135 44).trans rfl
theorem r_135_55 : xT.1 135 55 = some (.new 132, ((5, 0), ([], [7]))) := (kT_135 55).trans rfl
theorem r_135_65 : xT.1 135 65 = some (.new 203, ((1, 0), ([], [7]))) := (kT_135 65).trans rfl
theorem r_135_76 : xT.1 135 76 = some (.new 328, ((4, 0), ([], [7]))) := (kT_135 76).trans rfl
theorem r_135_87 : xT.1 135 87 = some (.new 299, ((0, 0), ([], [7]))) := (kT_135 87).trans rfl
theorem r_135_98 : xT.1 135 98 = some (.return_, ((0, 0), ([], []))) := (kT_135 98).trans rfl
theorem kT_136 (pc : Nat) : xT.1 136 pc = xfind k_136 pc := rfl
theorem r_136_0 : xT.1 136 0 = some (.iload_n 0, ((0, 0), ([], []))) := (kT_136 0).trans rfl
theorem r_136_1 : xT.1 136 1 = some (.ifCond .lt 14, ((15, 0), ([], []))) := (kT_136 1).trans rfl
theorem r_136_4 : xT.1 136 4 = some (.iload_n 0, ((0, 0), ([], []))) := (kT_136 4).trans rfl
theorem r_136_5 : xT.1 136 5 = some (.sipush 999, ((0, 0), ([.int 999], []))) := (kT_136 5).trans rfl
theorem r_136_8 : xT.1 136 8 = some (.if_icmp .gt 7, ((15, 0), ([], []))) := (kT_136 8).trans rfl
theorem r_136_11 : xT.1 136 11 = some (.iconst 1, ((0, 0), ([.int 1], []))) := (kT_136 11).trans rfl
theorem r_136_12 : xT.1 136 12 = some (.goto 4, ((16, 0), ([], []))) := (kT_136 12).trans rfl
theorem r_136_15 : xT.1 136 15 = some (.iconst 0, ((0, 0), ([.int 0], []))) := (kT_136 15).trans rfl
theorem r_136_16 : xT.1 136 16 = some (.ireturn, ((0, 0), ([], []))) := (kT_136 16).trans rfl
theorem kT_137 (pc : Nat) : xT.1 137 pc = xfind k_137 pc := rfl
theorem r_137_0 : xT.1 137 0 = some (.iload_n 0, ((0, 0), ([], []))) := (kT_137 0).trans rfl
theorem r_137_1 : xT.1 137 1 = some (.iconst 1, ((0, 0), ([.int 1], []))) := (kT_137 1).trans rfl
theorem r_137_2 : xT.1 137 2 = some (.if_icmp .lt 13, ((15, 0), ([], []))) := (kT_137 2).trans rfl
theorem r_137_5 : xT.1 137 5 = some (.iload_n 0, ((0, 0), ([], []))) := (kT_137 5).trans rfl
theorem r_137_6 : xT.1 137 6 = some (.bipush 9, ((0, 0), ([.int 9], []))) := (kT_137 6).trans rfl
theorem r_137_8 : xT.1 137 8 = some (.if_icmp .gt 7, ((15, 0), ([], []))) := (kT_137 8).trans rfl
theorem r_137_11 : xT.1 137 11 = some (.iconst 1, ((0, 0), ([.int 1], []))) := (kT_137 11).trans rfl
theorem r_137_12 : xT.1 137 12 = some (.goto 4, ((16, 0), ([], []))) := (kT_137 12).trans rfl
theorem r_137_15 : xT.1 137 15 = some (.iconst 0, ((0, 0), ([.int 0], []))) := (kT_137 15).trans rfl
theorem r_137_16 : xT.1 137 16 = some (.ireturn, ((0, 0), ([], []))) := (kT_137 16).trans rfl
theorem kT_138 (pc : Nat) : xT.1 138 pc = xfind k_138 pc := rfl
theorem r_138_0 : xT.1 138 0 = some (.iload_n 0, ((0, 0), ([], []))) := (kT_138 0).trans rfl
theorem r_138_1 : xT.1 138 1 = some (.invokestatic 392, ((137, 1), ([], [1]))) := (kT_138 1).trans rfl
theorem r_138_4 : xT.1 138 4 = some (.ifCond .ne 14, ((18, 0), ([], []))) := (kT_138 4).trans rfl
theorem r_138_7 : xT.1 138 7 = some (.new 203, ((1, 0), ([], [7]))) := (kT_138 7).trans rfl
theorem r_138_18 : xT.1 138 18 = some (.return_, ((0, 0), ([], []))) := (kT_138 18).trans rfl
theorem kT_139 (pc : Nat) : xT.1 139 pc = xfind k_139 pc := rfl
theorem r_139_0 : xT.1 139 0 = some (.aload_n 0, ((0, 0), ([], []))) := (kT_139 0).trans rfl
theorem r_139_1 : xT.1 139 1 = some (.getfield 10, ((8, 0), ([], []))) := (kT_139 1).trans rfl
theorem r_139_4 : xT.1 139 4 = some (.iload_n 1, ((0, 0), ([], []))) := (kT_139 4).trans rfl
theorem r_139_5 : xT.1 139 5 = some (.invokevirtual 397, ((12, 2), ([], [0]))) := (kT_139 5).trans rfl
theorem r_139_8 : xT.1 139 8 = some (.ifCond .ne 14, ((22, 0), ([], []))) := (kT_139 8).trans rfl
theorem r_139_11 : xT.1 139 11 = some (.new 163, ((2, 0), ([], [7]))) := (kT_139 11).trans rfl
theorem r_139_22 : xT.1 139 22 = some (.aload_n 0, ((0, 0), ([], []))) := (kT_139 22).trans rfl
theorem r_139_23 : xT.1 139 23 = some (.getfield 10, ((8, 0), ([], []))) := (kT_139 23).trans rfl
theorem r_139_26 : xT.1 139 26 = some (.getfield 400, ((1, 0), ([], []))) := (kT_139 26).trans rfl
theorem r_139_29 : xT.1 139 29 = some (.iload_n 1, ((0, 0), ([], []))) := (kT_139 29).trans rfl
theorem r_139_30 : xT.1 139 30 = some (.aaload, ((0, 0), ([], []))) := (kT_139 30).trans rfl
theorem r_139_31 : xT.1 139 31 = some (.areturn, ((0, 0), ([], []))) := (kT_139 31).trans rfl
theorem kT_140 (pc : Nat) : xT.1 140 pc = xfind k_140 pc := rfl
theorem r_140_0 : xT.1 140 0 = some (.aload_n 0, ((0, 0), ([], []))) := (kT_140 0).trans rfl
theorem r_140_1 : xT.1 140 1 = some (.getfield 10, ((8, 0), ([], []))) := (kT_140 1).trans rfl
theorem r_140_4 : xT.1 140 4 = some (.iload_n 1, ((0, 0), ([], []))) := (kT_140 4).trans rfl
theorem r_140_5 : xT.1 140 5 = some (.invokevirtual 148, ((13, 2), ([], [0]))) := (kT_140 5).trans rfl
theorem r_140_8 : xT.1 140 8 = some (.istore_n 2, ((0, 0), ([], []))) := (kT_140 8).trans rfl
theorem r_140_9 : xT.1 140 9 = some (.iload_n 2, ((0, 0), ([], []))) := (kT_140 9).trans rfl
theorem r_140_10 : xT.1 140 10 = some (.iconst (-1), ((0, 0), ([.int (-1)], []))) := (kT_140 10).trans rfl
theorem r_140_11 : xT.1 140 11 = some (.if_icmp .ne 13, ((24, 0), ([], []))) := (kT_140 11).trans rfl
theorem r_140_14 : xT.1 140 14 = some (.new 132, ((5, 0), ([], [7]))) := (kT_140 14).trans rfl
theorem r_140_24 : xT.1 140 24 = some (.aload_n 0, ((0, 0), ([], []))) := (kT_140 24).trans rfl
theorem r_140_25 : xT.1 140 25 = some (.getfield 10, ((8, 0), ([], []))) := (kT_140 25).trans rfl
theorem r_140_28 : xT.1 140 28 = some (.getfield 139, ((1, 1), ([], []))) := (kT_140 28).trans rfl
theorem r_140_31 : xT.1 140 31 = some (.iload_n 2, ((0, 0), ([], []))) := (kT_140 31).trans rfl
theorem r_140_32 : xT.1 140 32 = some (.aaload, ((0, 0), ([], []))) := (kT_140 32).trans rfl
theorem r_140_33 : xT.1 140 33 = some (.areturn, ((0, 0), ([], []))) := (kT_140 33).trans rfl
theorem kT_141 (pc : Nat) : xT.1 141 pc = xfind k_141 pc := rfl
theorem r_141_0 : xT.1 141 0 = some (.aload_n 0, ((0, 0), ([], []))) := (kT_141 0).trans rfl
theorem r_141_1 : xT.1 141 1 = some (.iload_n 1, ((0, 0), ([], []))) := (kT_141 1).trans rfl
theorem r_141_2 : xT.1 141 2 = some (.invokevirtual 153, ((140, 2), ([], [0]))) := (kT_141 2).trans rfl
theorem r_141_5 : xT.1 141 5 = some (.astore_n 2, ((0, 0), ([], []))) := (kT_141 5).trans rfl
theorem r_141_6 : xT.1 141 6 = some (.aload_n 2, ((0, 0), ([], []))) := (kT_141 6).trans rfl
theorem r_141_7 : xT.1 141 7 = some (.getfield 160, ((7, 3), ([], []))) := (kT_141 7).trans rfl
theorem r_141_10 : xT.1 141 10 = some (.ifCond .ne 14, ((24, 0), ([], []))) := (kT_141 10).trans rfl
theorem r_141_13 : xT.1 141 13 = some (.new 132, ((5, 0), ([], [7]))) := (kT_141 13).trans rfl
theorem r_141_24 : xT.1 141 24 = some (.aload_n 2, ((0, 0), ([], []))) := (kT_141 24).trans rfl
theorem r_141_25 : xT.1 141 25 = some (.areturn, ((0, 0), ([], []))) := (kT_141 25).trans rfl
theorem kT_142 (pc : Nat) : xT.1 142 pc = xfind k_142 pc := rfl
theorem r_142_0 : xT.1 142 0 = some (.aload_n 0, ((0, 0), ([], []))) := (kT_142 0).trans rfl
theorem r_142_1 : xT.1 142 1 = some (.iload_n 1, ((0, 0), ([], []))) := (kT_142 1).trans rfl
theorem r_142_2 : xT.1 142 2 = some (.invokevirtual 111, ((139, 2), ([], [0]))) := (kT_142 2).trans rfl
theorem r_142_5 : xT.1 142 5 = some (.pop, ((0, 0), ([], []))) := (kT_142 5).trans rfl
theorem r_142_6 : xT.1 142 6 = some (.aload_n 0, ((0, 0), ([], []))) := (kT_142 6).trans rfl
theorem r_142_7 : xT.1 142 7 = some (.iload_n 2, ((0, 0), ([], []))) := (kT_142 7).trans rfl
theorem r_142_8 : xT.1 142 8 = some (.invokevirtual 153, ((140, 2), ([], [0]))) := (kT_142 8).trans rfl
theorem r_142_11 : xT.1 142 11 = some (.astore_n 3, ((0, 0), ([], []))) := (kT_142 11).trans rfl
theorem r_142_12 : xT.1 142 12 = some (.aload_n 3, ((0, 0), ([], []))) := (kT_142 12).trans rfl
theorem r_142_13 : xT.1 142 13 = some (.iload_n 1, ((0, 0), ([], []))) := (kT_142 13).trans rfl
theorem r_142_14 : xT.1 142 14 = some (.invokevirtual 177, ((78, 2), ([], [0]))) := (kT_142 14).trans rfl
theorem r_142_17 : xT.1 142 17 = some (.istore 4, ((0, 0), ([], []))) := (kT_142 17).trans rfl
theorem r_142_19 : xT.1 142 19 = some (.iload 4, ((0, 0), ([], []))) := (kT_142 19).trans rfl
theorem r_142_21 : xT.1 142 21 = some (.iconst (-1), ((0, 0), ([.int (-1)], []))) := (kT_142 21).trans rfl
theorem r_142_22 : xT.1 142 22 = some (.if_icmp .ne 14, ((36, 0), ([], []))) := (kT_142 22).trans rfl
theorem r_142_25 : xT.1 142 25 = some (.new 132, ((5, 0), ([], [7]))) := (kT_142 25).trans rfl
theorem r_142_36 : xT.1 142 36 = some (.aload_n 3, ((0, 0), ([], []))) := (kT_142 36).trans rfl
theorem r_142_37 : xT.1 142 37 = some (.getfield 168, ((7, 0), ([], []))) := (kT_142 37).trans rfl
theorem r_142_40 : xT.1 142 40 = some (.iload 4, ((0, 0), ([], []))) := (kT_142 40).trans rfl
theorem r_142_42 : xT.1 142 42 = some (.aaload, ((0, 0), ([], []))) := (kT_142 42).trans rfl
theorem r_142_43 : xT.1 142 43 = some (.areturn, ((0, 0), ([], []))) := (kT_142 43).trans rfl
theorem kT_143 (pc : Nat) : xT.1 143 pc = xfind k_143 pc := rfl
theorem r_143_0 : xT.1 143 0 = some (.iconst 0, ((0, 0), ([.int 0], []))) := (kT_143 0).trans rfl
theorem r_143_1 : xT.1 143 1 = some (.istore_n 1, ((0, 0), ([], []))) := (kT_143 1).trans rfl
theorem r_143_2 : xT.1 143 2 = some (.iload_n 1, ((0, 0), ([], []))) := (kT_143 2).trans rfl
theorem r_143_3 : xT.1 143 3 = some (.aload_n 0, ((0, 0), ([], []))) := (kT_143 3).trans rfl
theorem r_143_4 : xT.1 143 4 = some (.getfield 10, ((8, 0), ([], []))) := (kT_143 4).trans rfl
theorem r_143_7 : xT.1 143 7 = some (.getfield 129, ((1, 5), ([], []))) := (kT_143 7).trans rfl
theorem r_143_10 : xT.1 143 10 = some (.if_icmp .ge 40, ((50, 0), ([], []))) := (kT_143 10).trans rfl
theorem r_143_13 : xT.1 143 13 = some (.aload_n 0, ((0, 0), ([], []))) := (kT_143 13).trans rfl
theorem r_143_14 : xT.1 143 14 = some (.getfield 10, ((8, 0), ([], []))) := (kT_143 14).trans rfl
theorem r_143_17 : xT.1 143 17 = some (.getfield 139, ((1, 1), ([], []))) := (kT_143 17).trans rfl
theorem r_143_20 : xT.1 143 20 = some (.iload_n 1, ((0, 0), ([], []))) := (kT_143 20).trans rfl
theorem r_143_21 : xT.1 143 21 = some (.aaload, ((0, 0), ([], []))) := (kT_143 21).trans rfl
theorem r_143_22 : xT.1 143 22 = some (.astore_n 2, ((0, 0), ([], []))) := (kT_143 22).trans rfl
theorem r_143_23 : xT.1 143 23 = some (.aload_n 0, ((0, 0), ([], []))) := (kT_143 23).trans rfl
theorem r_143_24 : xT.1 143 24 = some (.getfield 29, ((8, 3), ([], []))) := (kT_143 24).trans rfl
theorem r_143_27 : xT.1 143 27 = some (.aload_n 2, ((0, 0), ([], []))) := (kT_143 27).trans rfl
theorem r_143_28 : xT.1 143 28 = some (.invokevirtual 214, ((49, 2), ([], [0]))) := (kT_143 28).trans rfl
theorem r_143_31 : xT.1 143 31 = some (.aload_n 0, ((0, 0), ([], []))) := (kT_143 31).trans rfl
theorem r_143_32 : xT.1 143 32 = some (.getfield 29, ((8, 3), ([], []))) := (kT_143 32).trans rfl
theorem r_143_35 : xT.1 143 35 = some (.aload_n 2, ((0, 0), ([], []))) := (kT_143 35).trans rfl
theorem r_143_36 : xT.1 143 36 = some (.invokevirtual 218, ((51, 2), ([], [0]))) := (kT_143 36).trans rfl
theorem r_143_39 : xT.1 143 39 = some (.if_icmp .eq 5, ((44, 0), ([], []))) := (kT_143 39).trans rfl
theorem r_143_42 : xT.1 143 42 = some (.iconst 0, ((0, 0), ([.int 0], []))) := (kT_143 42).trans rfl
theorem r_143_43 : xT.1 143 43 = some (.ireturn, ((0, 0), ([], []))) := (kT_143 43).trans rfl
theorem r_143_44 : xT.1 143 44 = some (.iinc 1 1, ((0, 0), ([.int (1)], []))) := (kT_143 44).trans rfl
theorem r_143_47 : xT.1 143 47 = some (.goto (-45), ((2, 0), ([], []))) := (kT_143 47).trans rfl
theorem r_143_50 : xT.1 143 50 = some (.iconst 1, ((0, 0), ([.int 1], []))) := (kT_143 50).trans rfl
theorem r_143_51 : xT.1 143 51 = some (.ireturn, ((0, 0), ([], []))) := (kT_143 51).trans rfl
theorem kT_144 (pc : Nat) : xT.1 144 pc = xfind k_144 pc := rfl
theorem r_144_0 : xT.1 144 0 = some (.aload_n 0, ((0, 0), ([], []))) := (kT_144 0).trans rfl
theorem r_144_1 : xT.1 144 1 = some (.getfield 36, ((8, 4), ([], []))) := (kT_144 1).trans rfl
theorem r_144_4 : xT.1 144 4 = some (.invokevirtual 408, ((39, 1), ([], [0]))) := (kT_144 4).trans rfl
theorem r_144_7 : xT.1 144 7 = some (.iconst 0, ((0, 0), ([.int 0], []))) := (kT_144 7).trans rfl
theorem r_144_8 : xT.1 144 8 = some (.istore_n 2, ((0, 0), ([], []))) := (kT_144 8).trans rfl
theorem r_144_9 : xT.1 144 9 = some (.iload_n 2, ((0, 0), ([], []))) := (kT_144 9).trans rfl
theorem r_144_10 : xT.1 144 10 = some (.iload_n 1, ((0, 0), ([], []))) := (kT_144 10).trans rfl
theorem r_144_11 : xT.1 144 11 = some (.if_icmp .ge 49, ((60, 0), ([], []))) := (kT_144 11).trans rfl
theorem r_144_14 : xT.1 144 14 = some (.aload_n 0, ((0, 0), ([], []))) := (kT_144 14).trans rfl
theorem r_144_15 : xT.1 144 15 = some (.getfield 36, ((8, 4), ([], []))) := (kT_144 15).trans rfl
theorem r_144_18 : xT.1 144 18 = some (.invokevirtual 411, ((43, 1), ([], [0]))) := (kT_144 18).trans rfl
theorem r_144_21 : xT.1 144 21 = some (.astore_n 3, ((0, 0), ([], []))) := (kT_144 21).trans rfl
theorem r_144_22 : xT.1 144 22 = some (.aload_n 3, ((0, 0), ([], []))) := (kT_144 22).trans rfl
theorem r_144_23 : xT.1 144 23 = some (.ifnull 14, ((37, 0), ([], []))) := (kT_144 23).trans rfl
theorem r_144_26 : xT.1 144 26 = some (.aload_n 0, ((0, 0), ([], []))) := (kT_144 26).trans rfl
theorem r_144_27 : xT.1 144 27 = some (.aload_n 3, ((0, 0), ([], []))) := (kT_144 27).trans rfl
theorem r_144_28 : xT.1 144 28 = some (.invokevirtual 415, ((145, 2), ([], [0]))) := (kT_144 28).trans rfl
theorem r_144_31 : xT.1 144 31 = some (.getstatic 419, ((0, 0), ([.ref 0], []))) := (kT_144 31).trans rfl
theorem r_144_34 : xT.1 144 34 = some (.if_acmp .eq 5, ((39, 0), ([], []))) := (kT_144 34).trans rfl
theorem r_144_37 : xT.1 144 37 = some (.iload_n 2, ((0, 0), ([], []))) := (kT_144 37).trans rfl
theorem r_144_38 : xT.1 144 38 = some (.ireturn, ((0, 0), ([], []))) := (kT_144 38).trans rfl
theorem r_144_39 : xT.1 144 39 = some (.aload_n 0, ((0, 0), ([], []))) := (kT_144 39).trans rfl
theorem r_144_40 : xT.1 144 40 = some (.aload_n 3, ((0, 0), ([], []))) := (kT_144 40).trans rfl
theorem r_144_41 : xT.1 144 41 = some (.invokevirtual 423, ((146, 2), ([], [0]))) := (kT_144 41).trans rfl
theorem r_144_44 : xT.1 144 44 = some (.aload_n 0, ((0, 0), ([], []))) := (kT_144 44).trans rfl
theorem r_144_45 : xT.1 144 45 = some (.getfield 36, ((8, 4), ([], []))) := (kT_144 45).trans rfl
theorem r_144_48 : xT.1 144 48 = some (.bipush 59, ((0, 0), ([.int 59], []))) := (kT_144 48).trans rfl
theorem r_144_50 : xT.1 144 50 = some (.invokevirtual 427, ((44, 2), ([], [0]))) := (kT_144 50).trans rfl
theorem r_144_53 : xT.1 144 53 = some (.pop, ((0, 0), ([], []))) := (kT_144 53).trans rfl
theorem r_144_54 : xT.1 144 54 = some (.iinc 2 1, ((0, 0), ([.int (1)], []))) := (kT_144 54).trans rfl
theorem r_144_57 : xT.1 144 57 = some (.goto (-48), ((9, 0), ([], []))) := (kT_144 57).trans rfl
theorem r_144_60 : xT.1 144 60 = some (.iconst (-1), ((0, 0), ([.int (-1)], []))) := (kT_144 60).trans rfl
theorem r_144_61 : xT.1 144 61 = some (.ireturn, ((0, 0), ([], []))) := (kT_144 61).trans rfl
theorem kT_145 (pc : Nat) : xT.1 145 pc = xfind k_145 pc := rfl
theorem r_145_0 : xT.1 145 0 = some (.getstatic 431, ((0, 0), ([.ref 14], []))) := (kT_145 0).trans rfl
theorem r_145_3 : xT.1 145 3 = some (.aload_n 1, ((0, 0), ([], []))) := (kT_145 3).trans rfl
theorem r_145_4 : xT.1 145 4 = some (.invokevirtual 434, ((2, 1), ([], [4]))) := (kT_145 4).trans rfl
theorem r_145_7 : xT.1 145 7 = some (.iaload, ((0, 0), ([], []))) := (kT_145 7).trans rfl
theorem r_145_8 : xT.1 145 8 = some (.tableswitch 140 1 5 #[36, 44, 60, 116, 132], ((148, 36), ([], [44, 52, 68, 124, 140]))) := (kT_145 8).trans rfl
theorem r_145_44 : xT.1 145 44 = some (.aload_n 0, ((0, 0), ([], []))) := (kT_145 44).trans rfl
theorem r_145_45 : xT.1 145 45 = some (.getfield 10, ((8, 0), ([], []))) := (kT_145 45).trans rfl
theorem r_145_48 : xT.1 145 48 = some (.invokevirtual 58, ((14, 1), ([], [0]))) := (kT_145 48).trans rfl
theorem r_145_51 : xT.1 145 51 = some (.areturn, ((0, 0), ([], []))) := (kT_145 51).trans rfl
theorem r_145_52 : xT.1 145 52 = some (.aload_n 0, ((0, 0), ([], []))) := (kT_145 52).trans rfl
theorem r_145_53 : xT.1 145 53 = some (.getfield 10, ((8, 0), ([], []))) := (kT_145 53).trans rfl
theorem r_145_56 : xT.1 145 56 = some (.aload_n 0, ((0, 0), ([], []))) := (kT_145 56).trans rfl
theorem r_145_57 : xT.1 145 57 = some (.getfield 36, ((8, 4), ([], []))) := (kT_145 57).trans rfl
theorem r_145_60 : xT.1 145 60 = some (.iconst 0, ((0, 0), ([.int 0], []))) := (kT_145 60).trans rfl
theorem r_145_61 : xT.1 145 61 = some (.invokevirtual 437, ((41, 2), ([], [0]))) := (kT_145 61).trans rfl
theorem r_145_64 : xT.1 145 64 = some (.invokevirtual 74, ((16, 2), ([], [0]))) := (kT_145 64).trans rfl
theorem r_145_67 : xT.1 145 67 = some (.areturn, ((0, 0), ([], []))) := (kT_145 67).trans rfl
theorem r_145_68 : xT.1 145 68 = some (.aload_n 0, ((0, 0), ([], []))) := (kT_145 68).trans rfl
theorem r_145_69 : xT.1 145 69 = some (.getfield 10, ((8, 0), ([], []))) := (kT_145 69).trans rfl
theorem r_145_72 : xT.1 145 72 = some (.aload_n 0, ((0, 0), ([], []))) := (kT_145 72).trans rfl
theorem r_145_73 : xT.1 145 73 = some (.getfield 36, ((8, 4), ([], []))) := (kT_145 73).trans rfl
theorem r_145_76 : xT.1 145 76 = some (.iconst 0, ((0, 0), ([.int 0], []))) := (kT_145 76).trans rfl
theorem r_145_77 : xT.1 145 77 = some (.invokevirtual 437, ((41, 2), ([], [0]))) := (kT_145 77).trans rfl
theorem r_145_80 : xT.1 145 80 = some (.aload_n 0, ((0, 0), ([], []))) := (kT_145 80).trans rfl
theorem r_145_81 : xT.1 145 81 = some (.getfield 36, ((8, 4), ([], []))) := (kT_145 81).trans rfl
theorem r_145_84 : xT.1 145 84 = some (.iconst 1, ((0, 0), ([.int 1], []))) := (kT_145 84).trans rfl
theorem r_145_85 : xT.1 145 85 = some (.invokevirtual 437, ((41, 2), ([], [0]))) := (kT_145 85).trans rfl
theorem r_145_88 : xT.1 145 88 = some (.aload_n 0, ((0, 0), ([], []))) := (kT_145 88).trans rfl
theorem r_145_89 : xT.1 145 89 = some (.getfield 36, ((8, 4), ([], []))) := (kT_145 89).trans rfl
theorem r_145_92 : xT.1 145 92 = some (.iconst 2, ((0, 0), ([.int 2], []))) := (kT_145 92).trans rfl
theorem r_145_93 : xT.1 145 93 = some (.invokevirtual 437, ((41, 2), ([], [0]))) := (kT_145 93).trans rfl
theorem r_145_96 : xT.1 145 96 = some (.aload_n 0, ((0, 0), ([], []))) := (kT_145 96).trans rfl
theorem r_145_97 : xT.1 145 97 = some (.getfield 36, ((8, 4), ([], []))) := (kT_145 97).trans rfl
theorem r_145_100 : xT.1 145 100 = some (.iconst 3, ((0, 0), ([.int 3], []))) := (kT_145 100).trans rfl
theorem r_145_101 : xT.1 145 101 = some (.invokevirtual 437, ((41, 2), ([], [0]))) := (kT_145 101).trans rfl
theorem r_145_104 : xT.1 145 104 = some (.aload_n 0, ((0, 0), ([], []))) := (kT_145 104).trans rfl
theorem r_145_105 : xT.1 145 105 = some (.getfield 36, ((8, 4), ([], []))) := (kT_145 105).trans rfl
theorem r_145_108 : xT.1 145 108 = some (.iconst 4, ((0, 0), ([.int 4], []))) := (kT_145 108).trans rfl
theorem r_145_109 : xT.1 145 109 = some (.invokevirtual 437, ((41, 2), ([], [0]))) := (kT_145 109).trans rfl
theorem r_145_112 : xT.1 145 112 = some (.aload_n 0, ((0, 0), ([], []))) := (kT_145 112).trans rfl
theorem r_145_113 : xT.1 145 113 = some (.getfield 36, ((8, 4), ([], []))) := (kT_145 113).trans rfl
theorem r_145_116 : xT.1 145 116 = some (.iconst 5, ((0, 0), ([.int 5], []))) := (kT_145 116).trans rfl
theorem r_145_117 : xT.1 145 117 = some (.invokevirtual 437, ((41, 2), ([], [0]))) := (kT_145 117).trans rfl
theorem r_145_120 : xT.1 145 120 = some (.invokevirtual 82, ((18, 7), ([], [0]))) := (kT_145 120).trans rfl
theorem r_145_123 : xT.1 145 123 = some (.areturn, ((0, 0), ([], []))) := (kT_145 123).trans rfl
theorem r_145_124 : xT.1 145 124 = some (.aload_n 0, ((0, 0), ([], []))) := (kT_145 124).trans rfl
theorem r_145_125 : xT.1 145 125 = some (.getfield 10, ((8, 0), ([], []))) := (kT_145 125).trans rfl
theorem r_145_128 : xT.1 145 128 = some (.aload_n 0, ((0, 0), ([], []))) := (kT_145 128).trans rfl
theorem r_145_129 : xT.1 145 129 = some (.getfield 36, ((8, 4), ([], []))) := (kT_145 129).trans rfl
theorem r_145_132 : xT.1 145 132 = some (.iconst 0, ((0, 0), ([.int 0], []))) := (kT_145 132).trans rfl
theorem r_145_133 : xT.1 145 133 = some (.invokevirtual 437, ((41, 2), ([], [0]))) := (kT_145 133).trans rfl
theorem r_145_136 : xT.1 145 136 = some (.invokevirtual 90, ((20, 2), ([], [0]))) := (kT_145 136).trans rfl
theorem r_145_139 : xT.1 145 139 = some (.areturn, ((0, 0), ([], []))) := (kT_145 139).trans rfl
theorem r_145_140 : xT.1 145 140 = some (.aload_n 0, ((0, 0), ([], []))) := (kT_145 140).trans rfl
theorem r_145_141 : xT.1 145 141 = some (.getfield 10, ((8, 0), ([], []))) := (kT_145 141).trans rfl
theorem r_145_144 : xT.1 145 144 = some (.invokevirtual 96, ((25, 1), ([], [0]))) := (kT_145 144).trans rfl
theorem r_145_147 : xT.1 145 147 = some (.areturn, ((0, 0), ([], []))) := (kT_145 147).trans rfl
theorem r_145_148 : xT.1 145 148 = some (.aload_n 0, ((0, 0), ([], []))) := (kT_145 148).trans rfl
theorem r_145_149 : xT.1 145 149 = some (.getfield 10, ((8, 0), ([], []))) := (kT_145 149).trans rfl
theorem r_145_152 : xT.1 145 152 = some (.aload_n 0, ((0, 0), ([], []))) := (kT_145 152).trans rfl
theorem r_145_153 : xT.1 145 153 = some (.getfield 36, ((8, 4), ([], []))) := (kT_145 153).trans rfl
theorem r_145_156 : xT.1 145 156 = some (.iconst 0, ((0, 0), ([.int 0], []))) := (kT_145 156).trans rfl
theorem r_145_157 : xT.1 145 157 = some (.invokevirtual 437, ((41, 2), ([], [0]))) := (kT_145 157).trans rfl
theorem r_145_160 : xT.1 145 160 = some (.invokevirtual 102, ((27, 2), ([], [0]))) := (kT_145 160).trans rfl
theorem r_145_163 : xT.1 145 163 = some (.areturn, ((0, 0), ([], []))) := (kT_145 163).trans rfl
theorem kT_146 (pc : Nat) : xT.1 146 pc = xfind k_146 pc := rfl
theorem r_146_0 : xT.1 146 0 = some (.getstatic 431, ((0, 0), ([.ref 14], []))) := (kT_146 0).trans rfl
theorem r_146_3 : xT.1 146 3 = some (.aload_n 1, ((0, 0), ([], []))) := (kT_146 3).trans rfl
theorem r_146_4 : xT.1 146 4 = some (.invokevirtual 434, ((2, 1), ([], [4]))) := (kT_146 4).trans rfl
theorem r_146_7 : xT.1 146 7 = some (.iaload, ((0, 0), ([], []))) := (kT_146 7).trans rfl
theorem r_146_8 : xT.1 146 8 = some (.tableswitch 155 1 5 #[36, 47, 66, 125, 144], ((163, 36), ([], [44, 55, 74, 133, 152]))) := (kT_146 8).trans rfl
theorem r_146_44 : xT.1 146 44 = some (.aload_n 0, ((0, 0), ([], []))) := (kT_146 44).trans rfl
theorem r_146_45 : xT.1 146 45 = some (.getfield 10, ((8, 0), ([], []))) := (kT_146 45).trans rfl
theorem r_146_48 : xT.1 146 48 = some (.invokevirtual 70, ((15, 1), ([], [0]))) := (kT_146 48).trans rfl
theorem r_146_51 : xT.1 146 51 = some (.pop, ((0, 0), ([], []))) := (kT_146 51).trans rfl
theorem r_146_52 : xT.1 146 52 = some (.goto 127, ((179, 0), ([], []))) := (kT_146 52).trans rfl
theorem r_146_55 : xT.1 146 55 = some (.aload_n 0, ((0, 0), ([], []))) := (kT_146 55).trans rfl
theorem r_146_56 : xT.1 146 56 = some (.getfield 10, ((8, 0), ([], []))) := (kT_146 56).trans rfl
theorem r_146_59 : xT.1 146 59 = some (.aload_n 0, ((0, 0), ([], []))) := (kT_146 59).trans rfl
theorem r_146_60 : xT.1 146 60 = some (.getfield 36, ((8, 4), ([], []))) := (kT_146 60).trans rfl
theorem r_146_63 : xT.1 146 63 = some (.iconst 0, ((0, 0), ([.int 0], []))) := (kT_146 63).trans rfl
theorem r_146_64 : xT.1 146 64 = some (.invokevirtual 437, ((41, 2), ([], [0]))) := (kT_146 64).trans rfl
theorem r_146_67 : xT.1 146 67 = some (.invokevirtual 78, ((17, 2), ([], [0]))) := (kT_146 67).trans rfl
theorem r_146_70 : xT.1 146 70 = some (.pop, ((0, 0), ([], []))) := (kT_146 70).trans rfl
theorem r_146_71 : xT.1 146 71 = some (.goto 108, ((179, 0), ([], []))) := (kT_146 71).trans rfl
theorem r_146_74 : xT.1 146 74 = some (.aload_n 0, ((0, 0), ([], []))) := (kT_146 74).trans rfl
theorem r_146_75 : xT.1 146 75 = some (.getfield 10, ((8, 0), ([], []))) := (kT_146 75).trans rfl
theorem r_146_78 : xT.1 146 78 = some (.aload_n 0, ((0, 0), ([], []))) := (kT_146 78).trans rfl
theorem r_146_79 : xT.1 146 79 = some (.getfield 36, ((8, 4), ([], []))) := (kT_146 79).trans rfl
theorem r_146_82 : xT.1 146 82 = some (.iconst 0, ((0, 0), ([.int 0], []))) := (kT_146 82).trans rfl
theorem r_146_83 : xT.1 146 83 = some (.invokevirtual 437, ((41, 2), ([], [0]))) := (kT_146 83).trans rfl
theorem r_146_86 : xT.1 146 86 = some (.aload_n 0, ((0, 0), ([], []))) := (kT_146 86).trans rfl
theorem r_146_87 : xT.1 146 87 = some (.getfield 36, ((8, 4), ([], []))) := (kT_146 87).trans rfl
theorem r_146_90 : xT.1 146 90 = some (.iconst 1, ((0, 0), ([.int 1], []))) := (kT_146 90).trans rfl
theorem r_146_91 : xT.1 146 91 = some (.invokevirtual 437, ((41, 2), ([], [0]))) := (kT_146 91).trans rfl
theorem r_146_94 : xT.1 146 94 = some (.aload_n 0, ((0, 0), ([], []))) := (kT_146 94).trans rfl
theorem r_146_95 : xT.1 146 95 = some (.getfield 36, ((8, 4), ([], []))) := (kT_146 95).trans rfl
theorem r_146_98 : xT.1 146 98 = some (.iconst 2, ((0, 0), ([.int 2], []))) := (kT_146 98).trans rfl
theorem r_146_99 : xT.1 146 99 = some (.invokevirtual 437, ((41, 2), ([], [0]))) := (kT_146 99).trans rfl
theorem r_146_102 : xT.1 146 102 = some (.aload_n 0, ((0, 0), ([], []))) := (kT_146 102).trans rfl
theorem r_146_103 : xT.1 146 103 = some (.getfield 36, ((8, 4), ([], []))) := (kT_146 103).trans rfl
theorem r_146_106 : xT.1 146 106 = some (.iconst 3, ((0, 0), ([.int 3], []))) := (kT_146 106).trans rfl
theorem r_146_107 : xT.1 146 107 = some (.invokevirtual 437, ((41, 2), ([], [0]))) := (kT_146 107).trans rfl
theorem r_146_110 : xT.1 146 110 = some (.aload_n 0, ((0, 0), ([], []))) := (kT_146 110).trans rfl
theorem r_146_111 : xT.1 146 111 = some (.getfield 36, ((8, 4), ([], []))) := (kT_146 111).trans rfl
theorem r_146_114 : xT.1 146 114 = some (.iconst 4, ((0, 0), ([.int 4], []))) := (kT_146 114).trans rfl
theorem r_146_115 : xT.1 146 115 = some (.invokevirtual 437, ((41, 2), ([], [0]))) := (kT_146 115).trans rfl
theorem r_146_118 : xT.1 146 118 = some (.aload_n 0, ((0, 0), ([], []))) := (kT_146 118).trans rfl
theorem r_146_119 : xT.1 146 119 = some (.getfield 36, ((8, 4), ([], []))) := (kT_146 119).trans rfl
theorem r_146_122 : xT.1 146 122 = some (.iconst 5, ((0, 0), ([.int 5], []))) := (kT_146 122).trans rfl
theorem r_146_123 : xT.1 146 123 = some (.invokevirtual 437, ((41, 2), ([], [0]))) := (kT_146 123).trans rfl
theorem r_146_126 : xT.1 146 126 = some (.invokevirtual 86, ((19, 7), ([], [0]))) := (kT_146 126).trans rfl
theorem r_146_129 : xT.1 146 129 = some (.pop, ((0, 0), ([], []))) := (kT_146 129).trans rfl
theorem r_146_130 : xT.1 146 130 = some (.goto 49, ((179, 0), ([], []))) := (kT_146 130).trans rfl
theorem r_146_133 : xT.1 146 133 = some (.aload_n 0, ((0, 0), ([], []))) := (kT_146 133).trans rfl
theorem r_146_134 : xT.1 146 134 = some (.getfield 10, ((8, 0), ([], []))) := (kT_146 134).trans rfl
theorem r_146_137 : xT.1 146 137 = some (.aload_n 0, ((0, 0), ([], []))) := (kT_146 137).trans rfl
theorem r_146_138 : xT.1 146 138 = some (.getfield 36, ((8, 4), ([], []))) := (kT_146 138).trans rfl
theorem r_146_141 : xT.1 146 141 = some (.iconst 0, ((0, 0), ([.int 0], []))) := (kT_146 141).trans rfl
theorem r_146_142 : xT.1 146 142 = some (.invokevirtual 437, ((41, 2), ([], [0]))) := (kT_146 142).trans rfl
theorem r_146_145 : xT.1 146 145 = some (.invokevirtual 93, ((21, 2), ([], [0]))) := (kT_146 145).trans rfl
theorem r_146_148 : xT.1 146 148 = some (.pop, ((0, 0), ([], []))) := (kT_146 148).trans rfl
theorem r_146_149 : xT.1 146 149 = some (.goto 30, ((179, 0), ([], []))) := (kT_146 149).trans rfl
theorem r_146_152 : xT.1 146 152 = some (.aload_n 0, ((0, 0), ([], []))) := (kT_146 152).trans rfl
theorem r_146_153 : xT.1 146 153 = some (.getfield 10, ((8, 0), ([], []))) := (kT_146 153).trans rfl
theorem r_146_156 : xT.1 146 156 = some (.invokevirtual 99, ((26, 1), ([], [0]))) := (kT_146 156).trans rfl
theorem r_146_159 : xT.1 146 159 = some (.pop, ((0, 0), ([], []))) := (kT_146 159).trans rfl
theorem r_146_160 : xT.1 146 160 = some (.goto 19, ((179, 0), ([], []))) := (kT_146 160).trans rfl
theorem r_146_163 : xT.1 146 163 = some (.aload_n 0, ((0, 0), ([], []))) := (kT_146 163).trans rfl
theorem r_146_164 : xT.1 146 164 = some (.getfield 10, ((8, 0), ([], []))) := (kT_146 164).trans rfl
theorem r_146_167 : xT.1 146 167 = some (.aload_n 0, ((0, 0), ([], []))) := (kT_146 167).trans rfl
theorem r_146_168 : xT.1 146 168 = some (.getfield 36, ((8, 4), ([], []))) := (kT_146 168).trans rfl
theorem r_146_171 : xT.1 146 171 = some (.iconst 0, ((0, 0), ([.int 0], []))) := (kT_146 171).trans rfl
theorem r_146_172 : xT.1 146 172 = some (.invokevirtual 437, ((41, 2), ([], [0]))) := (kT_146 172).trans rfl
theorem r_146_175 : xT.1 146 175 = some (.invokevirtual 105, ((28, 2), ([], [0]))) := (kT_146 175).trans rfl
theorem r_146_178 : xT.1 146 178 = some (.pop, ((0, 0), ([], []))) := (kT_146 178).trans rfl
theorem r_146_179 : xT.1 146 179 = some (.return_, ((0, 0), ([], []))) := (kT_146 179).trans rfl
theorem kT_147 (pc : Nat) : xT.1 147 pc = xfind k_147 pc := rfl
theorem r_147_0 : xT.1 147 0 = some (.aload_n 0, ((0, 0), ([], []))) := (kT_147 0).trans rfl
theorem r_147_1 : xT.1 147 1 = some (.getfield 43, ((8, 5), ([], []))) := (kT_147 1).trans rfl
theorem r_147_4 : xT.1 147 4 = some (.bipush 32, ((0, 0), ([.int 32], []))) := (kT_147 4).trans rfl
theorem r_147_6 : xT.1 147 6 = some (.invokevirtual 343, ((293, 2), ([], [0]))) := (kT_147 6).trans rfl
theorem r_147_9 : xT.1 147 9 = some (.aload_n 1, ((0, 0), ([], []))) := (kT_147 9).trans rfl
theorem r_147_10 : xT.1 147 10 = some (.getfield 172, ((4, 0), ([], []))) := (kT_147 10).trans rfl
theorem r_147_13 : xT.1 147 13 = some (.invokevirtual 346, ((294, 2), ([], [0]))) := (kT_147 13).trans rfl
theorem r_147_16 : xT.1 147 16 = some (.bipush 58, ((0, 0), ([.int 58], []))) := (kT_147 16).trans rfl
theorem r_147_18 : xT.1 147 18 = some (.invokevirtual 343, ((293, 2), ([], [0]))) := (kT_147 18).trans rfl
theorem r_147_21 : xT.1 147 21 = some (.aload_n 1, ((0, 0), ([], []))) := (kT_147 21).trans rfl
theorem r_147_22 : xT.1 147 22 = some (.getfield 184, ((4, 1), ([], []))) := (kT_147 22).trans rfl
theorem r_147_25 : xT.1 147 25 = some (.invokevirtual 346, ((294, 2), ([], [0]))) := (kT_147 25).trans rfl
theorem r_147_28 : xT.1 147 28 = some (.pop, ((0, 0), ([], []))) := (kT_147 28).trans rfl
theorem r_147_29 : xT.1 147 29 = some (.aload_n 0, ((0, 0), ([], []))) := (kT_147 29).trans rfl
theorem r_147_30 : xT.1 147 30 = some (.getfield 43, ((8, 5), ([], []))) := (kT_147 30).trans rfl
theorem r_147_33 : xT.1 147 33 = some (.bipush 45, ((0, 0), ([.int 45], []))) := (kT_147 33).trans rfl
theorem r_147_35 : xT.1 147 35 = some (.invokevirtual 343, ((293, 2), ([], [0]))) := (kT_147 35).trans rfl
theorem r_147_38 : xT.1 147 38 = some (.aload_n 1, ((0, 0), ([], []))) := (kT_147 38).trans rfl
theorem r_147_39 : xT.1 147 39 = some (.getfield 187, ((4, 2), ([], []))) := (kT_147 39).trans rfl
theorem r_147_42 : xT.1 147 42 = some (.invokevirtual 346, ((294, 2), ([], [0]))) := (kT_147 42).trans rfl
theorem r_147_45 : xT.1 147 45 = some (.bipush 99, ((0, 0), ([.int 99], []))) := (kT_147 45).trans rfl
theorem r_147_47 : xT.1 147 47 = some (.invokevirtual 343, ((293, 2), ([], [0]))) := (kT_147 47).trans rfl
theorem r_147_50 : xT.1 147 50 = some (.aload_n 1, ((0, 0), ([], []))) := (kT_147 50).trans rfl
theorem r_147_51 : xT.1 147 51 = some (.getfield 190, ((4, 3), ([], []))) := (kT_147 51).trans rfl
theorem r_147_54 : xT.1 147 54 = some (.invokevirtual 346, ((294, 2), ([], [0]))) := (kT_147 54).trans rfl
theorem r_147_57 : xT.1 147 57 = some (.pop, ((0, 0), ([], []))) := (kT_147 57).trans rfl
theorem r_147_58 : xT.1 147 58 = some (.return_, ((0, 0), ([], []))) := (kT_147 58).trans rfl
theorem kT_148 (pc : Nat) : xT.1 148 pc = xfind k_148 pc := rfl
theorem r_148_0 : xT.1 148 0 = some (.aload_n 0, ((0, 0), ([], []))) := (kT_148 0).trans rfl
theorem r_148_1 : xT.1 148 1 = some (.invokespecial 1, ((0, 1), ([], [5]))) := (kT_148 1).trans rfl
theorem r_148_4 : xT.1 148 4 = some (.aload_n 0, ((0, 0), ([], []))) := (kT_148 4).trans rfl
theorem r_148_5 : xT.1 148 5 = some (.sipush 288, ((0, 0), ([.int 288], []))) := (kT_148 5).trans rfl
theorem r_148_8 : xT.1 148 8 = some (.newarray .int, ((0, 0), ([], []))) := (kT_148 8).trans rfl
theorem r_148_10 : xT.1 148 10 = some (.putfield 7, ((9, 0), ([], [2]))) := (kT_148 10).trans rfl
theorem r_148_13 : xT.1 148 13 = some (.aload_n 0, ((0, 0), ([], []))) := (kT_148 13).trans rfl
theorem r_148_14 : xT.1 148 14 = some (.sipush 288, ((0, 0), ([.int 288], []))) := (kT_148 14).trans rfl
theorem r_148_17 : xT.1 148 17 = some (.newarray .int, ((0, 0), ([], []))) := (kT_148 17).trans rfl
theorem r_148_19 : xT.1 148 19 = some (.putfield 13, ((9, 1), ([], [2]))) := (kT_148 19).trans rfl
theorem r_148_22 : xT.1 148 22 = some (.aload_n 0, ((0, 0), ([], []))) := (kT_148 22).trans rfl
theorem r_148_23 : xT.1 148 23 = some (.sipush 2304, ((0, 0), ([.int 2304], []))) := (kT_148 23).trans rfl
theorem r_148_26 : xT.1 148 26 = some (.newarray .int, ((0, 0), ([], []))) := (kT_148 26).trans rfl
theorem r_148_28 : xT.1 148 28 = some (.putfield 16, ((9, 2), ([], [2]))) := (kT_148 28).trans rfl
theorem r_148_31 : xT.1 148 31 = some (.aload_n 0, ((0, 0), ([], []))) := (kT_148 31).trans rfl
theorem r_148_32 : xT.1 148 32 = some (.sipush 288, ((0, 0), ([.int 288], []))) := (kT_148 32).trans rfl
theorem r_148_35 : xT.1 148 35 = some (.newarray .int, ((0, 0), ([], []))) := (kT_148 35).trans rfl
theorem r_148_37 : xT.1 148 37 = some (.putfield 19, ((9, 4), ([], [2]))) := (kT_148 37).trans rfl
theorem r_148_40 : xT.1 148 40 = some (.aload_n 0, ((0, 0), ([], []))) := (kT_148 40).trans rfl
theorem r_148_41 : xT.1 148 41 = some (.bipush 60, ((0, 0), ([.int 60], []))) := (kT_148 41).trans rfl
theorem r_148_43 : xT.1 148 43 = some (.newarray .char, ((0, 0), ([], []))) := (kT_148 43).trans rfl
theorem r_148_45 : xT.1 148 45 = some (.putfield 22, ((9, 6), ([], [2]))) := (kT_148 45).trans rfl
theorem r_148_48 : xT.1 148 48 = some (.aload_n 0, ((0, 0), ([], []))) := (kT_148 48).trans rfl
theorem r_148_49 : xT.1 148 49 = some (.iconst (-1), ((0, 0), ([.int (-1)], []))) := (kT_148 49).trans rfl
theorem r_148_50 : xT.1 148 50 = some (.putfield 26, ((9, 8), ([], [0]))) := (kT_148 50).trans rfl
theorem r_148_53 : xT.1 148 53 = some (.aload_n 0, ((0, 0), ([], []))) := (kT_148 53).trans rfl
theorem r_148_54 : xT.1 148 54 = some (.iconst (-1), ((0, 0), ([.int (-1)], []))) := (kT_148 54).trans rfl
theorem r_148_55 : xT.1 148 55 = some (.putfield 30, ((9, 9), ([], [0]))) := (kT_148 55).trans rfl
theorem r_148_58 : xT.1 148 58 = some (.aload_n 0, ((0, 0), ([], []))) := (kT_148 58).trans rfl
theorem r_148_59 : xT.1 148 59 = some (.bipush 100, ((0, 0), ([.int 100], []))) := (kT_148 59).trans rfl
theorem r_148_61 : xT.1 148 61 = some (.newarray .char, ((0, 0), ([], []))) := (kT_148 61).trans rfl
theorem r_148_63 : xT.1 148 63 = some (.putfield 33, ((9, 10), ([], [2]))) := (kT_148 63).trans rfl
theorem r_148_66 : xT.1 148 66 = some (.aload_n 0, ((0, 0), ([], []))) := (kT_148 66).trans rfl
theorem r_148_67 : xT.1 148 67 = some (.bipush 28, ((0, 0), ([.int 28], []))) := (kT_148 67).trans rfl
theorem r_148_69 : xT.1 148 69 = some (.newarray .int, ((0, 0), ([], []))) := (kT_148 69).trans rfl
theorem r_148_71 : xT.1 148 71 = some (.putfield 36, ((9, 13), ([], [2]))) := (kT_148 71).trans rfl
theorem r_148_74 : xT.1 148 74 = some (.aload_n 0, ((0, 0), ([], []))) := (kT_148 74).trans rfl
theorem r_148_75 : xT.1 148 75 = some (.sipush 420, ((0, 0), ([.int 420], []))) := (kT_148 75).trans rfl
theorem r_148_78 : xT.1 148 78 = some (.newarray .int, ((0, 0), ([], []))) := (kT_148 78).trans rfl
theorem r_148_80 : xT.1 148 80 = some (.putfield 39, ((9, 16), ([], [2]))) := (kT_148 80).trans rfl
theorem r_148_83 : xT.1 148 83 = some (.return_, ((0, 0), ([], []))) := (kT_148 83).trans rfl
theorem kT_149 (pc : Nat) : xT.1 149 pc = xfind k_149 pc := rfl
theorem r_149_0 : xT.1 149 0 = some (.aload_n 0, ((0, 0), ([], []))) := (kT_149 0).trans rfl
theorem r_149_1 : xT.1 149 1 = some (.getfield 42, ((9, 12), ([], []))) := (kT_149 1).trans rfl
theorem r_149_4 : xT.1 149 4 = some (.ireturn, ((0, 0), ([], []))) := (kT_149 4).trans rfl
theorem kT_150 (pc : Nat) : xT.1 150 pc = xfind k_150 pc := rfl
theorem r_150_0 : xT.1 150 0 = some (.iload_n 0, ((0, 0), ([], []))) := (kT_150 0).trans rfl
theorem r_150_1 : xT.1 150 1 = some (.iload_n 1, ((0, 0), ([], []))) := (kT_150 1).trans rfl
theorem r_150_2 : xT.1 150 2 = some (.if_icmp .lt 12, ((14, 0), ([], []))) := (kT_150 2).trans rfl
theorem r_150_5 : xT.1 150 5 = some (.iload_n 0, ((0, 0), ([], []))) := (kT_150 5).trans rfl
theorem r_150_6 : xT.1 150 6 = some (.iload_n 2, ((0, 0), ([], []))) := (kT_150 6).trans rfl
theorem r_150_7 : xT.1 150 7 = some (.if_icmp .gt 7, ((14, 0), ([], []))) := (kT_150 7).trans rfl
theorem r_150_10 : xT.1 150 10 = some (.iconst 1, ((0, 0), ([.int 1], []))) := (kT_150 10).trans rfl
theorem r_150_11 : xT.1 150 11 = some (.goto 4, ((15, 0), ([], []))) := (kT_150 11).trans rfl
theorem r_150_14 : xT.1 150 14 = some (.iconst 0, ((0, 0), ([.int 0], []))) := (kT_150 14).trans rfl
theorem r_150_15 : xT.1 150 15 = some (.ireturn, ((0, 0), ([], []))) := (kT_150 15).trans rfl
theorem kT_151 (pc : Nat) : xT.1 151 pc = xfind k_151 pc := rfl
theorem r_151_0 : xT.1 151 0 = some (.iload_n 0, ((0, 0), ([], []))) := (kT_151 0).trans rfl
theorem r_151_1 : xT.1 151 1 = some (.ifCond .ge 8, ((9, 0), ([], []))) := (kT_151 1).trans rfl
theorem r_151_4 : xT.1 151 4 = some (.iload_n 0, ((0, 0), ([], []))) := (kT_151 4).trans rfl
theorem r_151_5 : xT.1 151 5 = some (.ineg, ((0, 0), ([], []))) := (kT_151 5).trans rfl
theorem r_151_6 : xT.1 151 6 = some (.goto 4, ((10, 0), ([], []))) := (kT_151 6).trans rfl
theorem r_151_9 : xT.1 151 9 = some (.iload_n 0, ((0, 0), ([], []))) := (kT_151 9).trans rfl
theorem r_151_10 : xT.1 151 10 = some (.ireturn, ((0, 0), ([], []))) := (kT_151 10).trans rfl
theorem kT_152 (pc : Nat) : xT.1 152 pc = xfind k_152 pc := rfl
theorem r_152_0 : xT.1 152 0 = some (.aload_n 0, ((0, 0), ([], []))) := (kT_152 0).trans rfl
theorem r_152_1 : xT.1 152 1 = some (.iconst 0, ((0, 0), ([.int 0], []))) := (kT_152 1).trans rfl
theorem r_152_2 : xT.1 152 2 = some (.putfield 42, ((9, 12), ([], [0]))) := (kT_152 2).trans rfl
theorem r_152_5 : xT.1 152 5 = some (.iload_n 1, ((0, 0), ([], []))) := (kT_152 5).trans rfl
theorem r_152_6 : xT.1 152 6 = some (.ireturn, ((0, 0), ([], []))) := (kT_152 6).trans rfl
theorem kT_153 (pc : Nat) : xT.1 153 pc = xfind k_153 pc := rfl
theorem r_153_0 : xT.1 153 0 = some (.aload_n 0, ((0, 0), ([], []))) := (kT_153 0).trans rfl
theorem r_153_1 : xT.1 153 1 = some (.iload_n 1, ((0, 0), ([], []))) := (kT_153 1).trans rfl
theorem r_153_2 : xT.1 153 2 = some (.putfield 42, ((9, 12), ([], [0]))) := (kT_153 2).trans rfl
theorem r_153_5 : xT.1 153 5 = some (.iconst 0, ((0, 0), ([.int 0], []))) := (kT_153 5).trans rfl
theorem r_153_6 : xT.1 153 6 = some (.ireturn, ((0, 0), ([], []))) := (kT_153 6).trans rfl
theorem kT_154 (pc : Nat) : xT.1 154 pc = xfind k_154 pc := rfl
theorem r_154_0 : xT.1 154 0 = some (.iconst 0, ((0, 0), ([.int 0], []))) := (kT_154 0).trans rfl
theorem r_154_1 : xT.1 154 1 = some (.istore 4, ((0, 0), ([], []))) := (kT_154 1).trans rfl
theorem r_154_3 : xT.1 154 3 = some (.iload 4, ((0, 0), ([], []))) := (kT_154 3).trans rfl
theorem r_154_5 : xT.1 154 5 = some (.sipush 288, ((0, 0), ([.int 288], []))) := (kT_154 5).trans rfl
theorem r_154_8 : xT.1 154 8 = some (.if_icmp .ge 21, ((29, 0), ([], []))) := (kT_154 8).trans rfl
theorem r_154_11 : xT.1 154 11 = some (.aload_n 2, ((0, 0), ([], []))) := (kT_154 11).trans rfl
theorem r_154_12 : xT.1 154 12 = some (.iload_n 3, ((0, 0), ([], []))) := (kT_154 12).trans rfl
theorem r_154_13 : xT.1 154 13 = some (.iload 4, ((0, 0), ([], []))) := (kT_154 13).trans rfl
theorem r_154_15 : xT.1 154 15 = some (.iadd, ((0, 0), ([], []))) := (kT_154 15).trans rfl
theorem r_154_16 : xT.1 154 16 = some (.aload_n 0, ((0, 0), ([], []))) := (kT_154 16).trans rfl
theorem r_154_17 : xT.1 154 17 = some (.iload_n 1, ((0, 0), ([], []))) := (kT_154 17).trans rfl
theorem r_154_18 : xT.1 154 18 = some (.iload 4, ((0, 0), ([], []))) := (kT_154 18).trans rfl
theorem r_154_20 : xT.1 154 20 = some (.iadd, ((0, 0), ([], []))) := (kT_154 20).trans rfl
theorem r_154_21 : xT.1 154 21 = some (.iaload, ((0, 0), ([], []))) := (kT_154 21).trans rfl
theorem r_154_22 : xT.1 154 22 = some (.iastore, ((0, 0), ([], []))) := (kT_154 22).trans rfl
theorem r_154_23 : xT.1 154 23 = some (.iinc 4 1, ((0, 0), ([.int (1)], []))) := (kT_154 23).trans rfl
theorem r_154_26 : xT.1 154 26 = some (.goto (-23), ((3, 0), ([], []))) := (kT_154 26).trans rfl
theorem r_154_29 : xT.1 154 29 = some (.return_, ((0, 0), ([], []))) := (kT_154 29).trans rfl
theorem kT_155 (pc : Nat) : xT.1 155 pc = xfind k_155 pc := rfl
theorem r_155_0 : xT.1 155 0 = some (.aload_n 0, ((0, 0), ([], []))) := (kT_155 0).trans rfl
theorem r_155_1 : xT.1 155 1 = some (.getfield 7, ((9, 0), ([], []))) := (kT_155 1).trans rfl
theorem r_155_4 : xT.1 155 4 = some (.iconst 0, ((0, 0), ([.int 0], []))) := (kT_155 4).trans rfl
theorem r_155_5 : xT.1 155 5 = some (.aload_n 0, ((0, 0), ([], []))) := (kT_155 5).trans rfl
theorem r_155_6 : xT.1 155 6 = some (.getfield 13, ((9, 1), ([], []))) := (kT_155 6).trans rfl
theorem r_155_9 : xT.1 155 9 = some (.iconst 0, ((0, 0), ([.int 0], []))) := (kT_155 9).trans rfl
theorem r_155_10 : xT.1 155 10 = some (.invokestatic 45, ((154, 4), ([], [1]))) := (kT_155 10).trans rfl
theorem r_155_13 : xT.1 155 13 = some (.return_, ((0, 0), ([], []))) := (kT_155 13).trans rfl
theorem kT_156 (pc : Nat) : xT.1 156 pc = xfind k_156 pc := rfl
theorem r_156_0 : xT.1 156 0 = some (.aload_n 0, ((0, 0), ([], []))) := (kT_156 0).trans rfl
theorem r_156_1 : xT.1 156 1 = some (.getfield 42, ((9, 12), ([], []))) := (kT_156 1).trans rfl
theorem r_156_4 : xT.1 156 4 = some (.ifCond .eq 18, ((22, 0), ([], []))) := (kT_156 4).trans rfl
theorem r_156_7 : xT.1 156 7 = some (.aload_n 0, ((0, 0), ([], []))) := (kT_156 7).trans rfl
theorem r_156_8 : xT.1 156 8 = some (.getfield 13, ((9, 1), ([], []))) := (kT_156 8).trans rfl
theorem r_156_11 : xT.1 156 11 = some (.iconst 0, ((0, 0), ([.int 0], []))) := (kT_156 11).trans rfl
theorem r_156_12 : xT.1 156 12 = some (.aload_n 0, ((0, 0), ([], []))) := (kT_156 12).trans rfl
theorem r_156_13 : xT.1 156 13 = some (.getfield 7, ((9, 0), ([], []))) := (kT_156 13).trans rfl
theorem r_156_16 : xT.1 156 16 = some (.iconst 0, ((0, 0), ([.int 0], []))) := (kT_156 16).trans rfl
theorem r_156_17 : xT.1 156 17 = some (.invokestatic 45, ((154, 4), ([], [1]))) := (kT_156 17).trans rfl
theorem r_156_20 : xT.1 156 20 = some (.iconst 0, ((0, 0), ([.int 0], []))) := (kT_156 20).trans rfl
theorem r_156_21 : xT.1 156 21 = some (.ireturn, ((0, 0), ([], []))) := (kT_156 21).trans rfl
theorem r_156_22 : xT.1 156 22 = some (.aload_n 0, ((0, 0), ([], []))) := (kT_156 22).trans rfl
theorem r_156_23 : xT.1 156 23 = some (.getfield 49, ((9, 3), ([], []))) := (kT_156 23).trans rfl
theorem r_156_26 : xT.1 156 26 = some (.bipush 8, ((0, 0), ([.int 8], []))) := (kT_156 26).trans rfl
theorem r_156_28 : xT.1 156 28 = some (.if_icmp .ne 44, ((72, 0), ([], []))) := (kT_156 28).trans rfl
theorem r_156_31 : xT.1 156 31 = some (.iconst 0, ((0, 0), ([.int 0], []))) := (kT_156 31).trans rfl
theorem r_156_32 : xT.1 156 32 = some (.istore_n 2, ((0, 0), ([], []))) := (kT_156 32).trans rfl
theorem r_156_33 : xT.1 156 33 = some (.iload_n 2, ((0, 0), ([], []))) := (kT_156 33).trans rfl
theorem r_156_34 : xT.1 156 34 = some (.sipush 2016, ((0, 0), ([.int 2016], []))) := (kT_156 34).trans rfl
theorem r_156_37 : xT.1 156 37 = some (.if_icmp .ge 25, ((62, 0), ([], []))) := (kT_156 37).trans rfl
theorem r_156_40 : xT.1 156 40 = some (.aload_n 0, ((0, 0), ([], []))) := (kT_156 40).trans rfl
theorem r_156_41 : xT.1 156 41 = some (.getfield 16, ((9, 2), ([], []))) := (kT_156 41).trans rfl
theorem r_156_44 : xT.1 156 44 = some (.iload_n 2, ((0, 0), ([], []))) := (kT_156 44).trans rfl
theorem r_156_45 : xT.1 156 45 = some (.aload_n 0, ((0, 0), ([], []))) := (kT_156 45).trans rfl
theorem r_156_46 : xT.1 156 46 = some (.getfield 16, ((9, 2), ([], []))) := (kT_156 46).trans rfl
theorem r_156_49 : xT.1 156 49 = some (.iload_n 2, ((0, 0), ([], []))) := (kT_156 49).trans rfl
theorem r_156_50 : xT.1 156 50 = some (.sipush 288, ((0, 0), ([.int 288], []))) := (kT_156 50).trans rfl
theorem r_156_53 : xT.1 156 53 = some (.iadd, ((0, 0), ([], []))) := (kT_156 53).trans rfl
theorem r_156_54 : xT.1 156 54 = some (.iaload, ((0, 0), ([], []))) := (kT_156 54).trans rfl
theorem r_156_55 : xT.1 156 55 = some (.iastore, ((0, 0), ([], []))) := (kT_156 55).trans rfl
theorem r_156_56 : xT.1 156 56 = some (.iinc 2 1, ((0, 0), ([.int (1)], []))) := (kT_156 56).trans rfl
theorem r_156_59 : xT.1 156 59 = some (.goto (-26), ((33, 0), ([], []))) := (kT_156 59).trans rfl
theorem r_156_62 : xT.1 156 62 = some (.aload_n 0, ((0, 0), ([], []))) := (kT_156 62).trans rfl
theorem r_156_63 : xT.1 156 63 = some (.dup, ((0, 0), ([], []))) := (kT_156 63).trans rfl
theorem r_156_64 : xT.1 156 64 = some (.getfield 49, ((9, 3), ([], []))) := (kT_156 64).trans rfl
theorem r_156_67 : xT.1 156 67 = some (.iconst 1, ((0, 0), ([.int 1], []))) := (kT_156 67).trans rfl
theorem r_156_68 : xT.1 156 68 = some (.isub, ((0, 0), ([], []))) := (kT_156 68).trans rfl
theorem r_156_69 : xT.1 156 69 = some (.putfield 49, ((9, 3), ([], [0]))) := (kT_156 69).trans rfl
theorem r_156_72 : xT.1 156 72 = some (.aload_n 0, ((0, 0), ([], []))) := (kT_156 72).trans rfl
theorem r_156_73 : xT.1 156 73 = some (.getfield 13, ((9, 1), ([], []))) := (kT_156 73).trans rfl
theorem r_156_76 : xT.1 156 76 = some (.iconst 0, ((0, 0), ([.int 0], []))) := (kT_156 76).trans rfl
theorem r_156_77 : xT.1 156 77 = some (.aload_n 0, ((0, 0), ([], []))) := (kT_156 77).trans rfl
theorem r_156_78 : xT.1 156 78 = some (.getfield 16, ((9, 2), ([], []))) := (kT_156 78).trans rfl
theorem r_156_81 : xT.1 156 81 = some (.aload_n 0, ((0, 0), ([], []))) := (kT_156 81).trans rfl
theorem r_156_82 : xT.1 156 82 = some (.getfield 49, ((9, 3), ([], []))) := (kT_156 82).trans rfl
theorem r_156_85 : xT.1 156 85 = some (.sipush 288, ((0, 0), ([.int 288], []))) := (kT_156 85).trans rfl
theorem r_156_88 : xT.1 156 88 = some (.imul, ((0, 0), ([], []))) := (kT_156 88).trans rfl
theorem r_156_89 : xT.1 156 89 = some (.invokestatic 45, ((154, 4), ([], [1]))) := (kT_156 89).trans rfl
theorem r_156_92 : xT.1 156 92 = some (.aload_n 0, ((0, 0), ([], []))) := (kT_156 92).trans rfl
theorem r_156_93 : xT.1 156 93 = some (.dup, ((0, 0), ([], []))) := (kT_156 93).trans rfl
theorem r_156_94 : xT.1 156 94 = some (.getfield 49, ((9, 3), ([], []))) := (kT_156 94).trans rfl
theorem r_156_97 : xT.1 156 97 = some (.iconst 1, ((0, 0), ([.int 1], []))) := (kT_156 97).trans rfl
theorem r_156_98 : xT.1 156 98 = some (.iadd, ((0, 0), ([], []))) := (kT_156 98).trans rfl
theorem r_156_99 : xT.1 156 99 = some (.putfield 49, ((9, 3), ([], [0]))) := (kT_156 99).trans rfl
theorem r_156_102 : xT.1 156 102 = some (.iload_n 1, ((0, 0), ([], []))) := (kT_156 102).trans rfl
theorem r_156_103 : xT.1 156 103 = some (.ireturn, ((0, 0), ([], []))) := (kT_156 103).trans rfl
theorem kT_157 (pc : Nat) : xT.1 157 pc = xfind k_157 pc := rfl
theorem r_157_0 : xT.1 157 0 = some (.iload_n 1, ((0, 0), ([], []))) := (kT_157 0).trans rfl
theorem r_157_1 : xT.1 157 1 = some (.iconst 0, ((0, 0), ([.int 0], []))) := (kT_157 1).trans rfl
theorem r_157_2 : xT.1 157 2 = some (.aload_n 0, ((0, 0), ([], []))) := (kT_157 2).trans rfl
theorem r_157_3 : xT.1 157 3 = some (.getfield 7, ((9, 0), ([], []))) := (kT_157 3).trans rfl
theorem r_157_6 : xT.1 157 6 = some (.iconst 0, ((0, 0), ([.int 0], []))) := (kT_157 6).trans rfl
theorem r_157_7 : xT.1 157 7 = some (.iaload, ((0, 0), ([], []))) := (kT_157 7).trans rfl
theorem r_157_8 : xT.1 157 8 = some (.iconst 1, ((0, 0), ([.int 1], []))) := (kT_157 8).trans rfl
theorem r_157_9 : xT.1 157 9 = some (.isub, ((0, 0), ([], []))) := (kT_157 9).trans rfl
theorem r_157_10 : xT.1 157 10 = some (.invokestatic 52, ((150, 3), ([], [1]))) := (kT_157 10).trans rfl
theorem r_157_13 : xT.1 157 13 = some (.ireturn, ((0, 0), ([], []))) := (kT_157 13).trans rfl
theorem kT_158 (pc : Nat) : xT.1 158 pc = xfind k_158 pc := rfl
theorem r_158_0 : xT.1 158 0 = some (.iconst 0, ((0, 0), ([.int 0], []))) := (kT_158 0).trans rfl
theorem r_158_1 : xT.1 158 1 = some (.istore_n 2, ((0, 0), ([], []))) := (kT_158 1).trans rfl
theorem r_158_2 : xT.1 158 2 = some (.iload_n 2, ((0, 0), ([], []))) := (kT_158 2).trans rfl
theorem r_158_3 : xT.1 158 3 = some (.aload_n 0, ((0, 0), ([], []))) := (kT_158 3).trans rfl
theorem r_158_4 : xT.1 158 4 = some (.getfield 7, ((9, 0), ([], []))) := (kT_158 4).trans rfl
theorem r_158_7 : xT.1 158 7 = some (.iconst 1, ((0, 0), ([.int 1], []))) := (kT_158 7).trans rfl
theorem r_158_8 : xT.1 158 8 = some (.iaload, ((0, 0), ([], []))) := (kT_158 8).trans rfl
theorem r_158_9 : xT.1 158 9 = some (.if_icmp .ge 24, ((33, 0), ([], []))) := (kT_158 9).trans rfl
theorem r_158_12 : xT.1 158 12 = some (.aload_n 0, ((0, 0), ([], []))) := (kT_158 12).trans rfl
theorem r_158_13 : xT.1 158 13 = some (.getfield 7, ((9, 0), ([], []))) := (kT_158 13).trans rfl
theorem r_158_16 : xT.1 158 16 = some (.bipush 120, ((0, 0), ([.int 120], []))) := (kT_158 16).trans rfl
theorem r_158_18 : xT.1 158 18 = some (.iload_n 2, ((0, 0), ([], []))) := (kT_158 18).trans rfl
theorem r_158_19 : xT.1 158 19 = some (.iadd, ((0, 0), ([], []))) := (kT_158 19).trans rfl
theorem r_158_20 : xT.1 158 20 = some (.iaload, ((0, 0), ([], []))) := (kT_158 20).trans rfl
theorem r_158_21 : xT.1 158 21 = some (.iload_n 1, ((0, 0), ([], []))) := (kT_158 21).trans rfl
theorem r_158_22 : xT.1 158 22 = some (.if_icmp .ne 5, ((27, 0), ([], []))) := (kT_158 22).trans rfl
theorem r_158_25 : xT.1 158 25 = some (.iload_n 2, ((0, 0), ([], []))) := (kT_158 25).trans rfl
theorem r_158_26 : xT.1 158 26 = some (.ireturn, ((0, 0), ([], []))) := (kT_158 26).trans rfl
theorem r_158_27 : xT.1 158 27 = some (.iinc 2 1, ((0, 0), ([.int (1)], []))) := (kT_158 27).trans rfl
theorem r_158_30 : xT.1 158 30 = some (.goto (-28), ((2, 0), ([], []))) := (kT_158 30).trans rfl
theorem r_158_33 : xT.1 158 33 = some (.iconst (-1), ((0, 0), ([.int (-1)], []))) := (kT_158 33).trans rfl
theorem r_158_34 : xT.1 158 34 = some (.ireturn, ((0, 0), ([], []))) := (kT_158 34).trans rfl
theorem kT_159 (pc : Nat) : xT.1 159 pc = xfind k_159 pc := rfl
theorem r_159_0 : xT.1 159 0 = some (.sipush 138, ((0, 0), ([.int 138], []))) := (kT_159 0).trans rfl
theorem r_159_3 : xT.1 159 3 = some (.bipush 25, ((0, 0), ([.int 25], []))) := (kT_159 3).trans rfl
theorem r_159_5 : xT.1 159 5 = some (.iload_n 0, ((0, 0), ([], []))) := (kT_159 5).trans rfl
theorem r_159_6 : xT.1 159 6 = some (.imul, ((0, 0), ([], []))) := (kT_159 6).trans rfl
theorem r_159_7 : xT.1 159 7 = some (.iadd, ((0, 0), ([], []))) := (kT_159 7).trans rfl
theorem r_159_8 : xT.1 159 8 = some (.iconst 5, ((0, 0), ([.int 5], []))) := (kT_159 8).trans rfl
theorem r_159_9 : xT.1 159 9 = some (.iload_n 1, ((0, 0), ([], []))) := (kT_159 9).trans rfl
theorem r_159_10 : xT.1 159 10 = some (.imul, ((0, 0), ([], []))) := (kT_159 10).trans rfl
theorem r_159_11 : xT.1 159 11 = some (.iadd, ((0, 0), ([], []))) := (kT_159 11).trans rfl
theorem r_159_12 : xT.1 159 12 = some (.ireturn, ((0, 0), ([], []))) := (kT_159 12).trans rfl
theorem kT_160 (pc : Nat) : xT.1 160 pc = xfind k_160 pc := rfl
theorem r_160_0 : xT.1 160 0 = some (.iconst 0, ((0, 0), ([.int 0], []))) := (kT_160 0).trans rfl
theorem r_160_1 : xT.1 160 1 = some (.istore_n 3, ((0, 0), ([], []))) := (kT_160 1).trans rfl
theorem r_160_2 : xT.1 160 2 = some (.iload_n 3, ((0, 0), ([], []))) := (kT_160 2).trans rfl
theorem r_160_3 : xT.1 160 3 = some (.aload_n 0, ((0, 0), ([], []))) := (kT_160 3).trans rfl
theorem r_160_4 : xT.1 160 4 = some (.getfield 7, ((9, 0), ([], []))) := (kT_160 4).trans rfl
theorem r_160_7 : xT.1 160 7 = some (.sipush 132, ((0, 0), ([.int 132], []))) := (kT_160 7).trans rfl
theorem r_160_10 : xT.1 160 10 = some (.iload_n 1, ((0, 0), ([], []))) := (kT_160 10).trans rfl
theorem r_160_11 : xT.1 160 11 = some (.iadd, ((0, 0), ([], []))) := (kT_160 11).trans rfl
theorem r_160_12 : xT.1 160 12 = some (.iaload, ((0, 0), ([], []))) := (kT_160 12).trans rfl
theorem r_160_13 : xT.1 160 13 = some (.if_icmp .ge 27, ((40, 0), ([], []))) := (kT_160 13).trans rfl
theorem r_160_16 : xT.1 160 16 = some (.aload_n 0, ((0, 0), ([], []))) := (kT_160 16).trans rfl
theorem r_160_17 : xT.1 160 17 = some (.getfield 7, ((9, 0), ([], []))) := (kT_160 17).trans rfl
theorem r_160_20 : xT.1 160 20 = some (.iload_n 1, ((0, 0), ([], []))) := (kT_160 20).trans rfl
theorem r_160_21 : xT.1 160 21 = some (.iload_n 3, ((0, 0), ([], []))) := (kT_160 21).trans rfl
theorem r_160_22 : xT.1 160 22 = some (.invokestatic 56, ((159, 2), ([], [1]))) := (kT_160 22).trans rfl
theorem r_160_25 : xT.1 160 25 = some (.iconst 0, ((0, 0), ([.int 0], []))) := (kT_160 25).trans rfl
theorem r_160_26 : xT.1 160 26 = some (.iadd, ((0, 0), ([], []))) := (kT_160 26).trans rfl
theorem r_160_27 : xT.1 160 27 = some (.iaload, ((0, 0), ([], []))) := (kT_160 27).trans rfl
theorem r_160_28 : xT.1 160 28 = some (.iload_n 2, ((0, 0), ([], []))) := (kT_160 28).trans rfl
theorem r_160_29 : xT.1 160 29 = some (.if_icmp .ne 5, ((34, 0), ([], []))) := (kT_160 29).trans rfl
theorem r_160_32 : xT.1 160 32 = some (.iload_n 3, ((0, 0), ([], []))) := (kT_160 32).trans rfl
theorem r_160_33 : xT.1 160 33 = some (.ireturn, ((0, 0), ([], []))) := (kT_160 33).trans rfl
theorem r_160_34 : xT.1 160 34 = some (.iinc 3 1, ((0, 0), ([.int (1)], []))) := (kT_160 34).trans rfl
theorem r_160_37 : xT.1 160 37 = some (.goto (-35), ((2, 0), ([], []))) := (kT_160 37).trans rfl
theorem r_160_40 : xT.1 160 40 = some (.iconst (-1), ((0, 0), ([.int (-1)], []))) := (kT_160 40).trans rfl
theorem r_160_41 : xT.1 160 41 = some (.ireturn, ((0, 0), ([], []))) := (kT_160 41).trans rfl
theorem kT_161 (pc : Nat) : xT.1 161 pc = xfind k_161 pc := rfl
theorem r_161_0 : xT.1 161 0 = some (.aload_n 0, ((0, 0), ([], []))) := (kT_161 0).trans rfl
theorem r_161_1 : xT.1 161 1 = some (.getfield 7, ((9, 0), ([], []))) := (kT_161 1).trans rfl
theorem r_161_4 : xT.1 161 4 = some (.iconst 0, ((0, 0), ([.int 0], []))) := (kT_161 4).trans rfl
theorem r_161_5 : xT.1 161 5 = some (.iaload, ((0, 0), ([], []))) := (kT_161 5).trans rfl
theorem r_161_6 : xT.1 161 6 = some (.istore_n 1, ((0, 0), ([], []))) := (kT_161 6).trans rfl
theorem r_161_7 : xT.1 161 7 = some (.iload_n 1, ((0, 0), ([], []))) := (kT_161 7).trans rfl
theorem r_161_8 : xT.1 161 8 = some (.iconst 5, ((0, 0), ([.int 5], []))) := (kT_161 8).trans rfl
theorem r_161_9 : xT.1 161 9 = some (.if_icmp .ne 9, ((18, 0), ([], []))) := (kT_161 9).trans rfl
theorem r_161_12 : xT.1 161 12 = some (.aload_n 0, ((0, 0), ([], []))) := (kT_161 12).trans rfl
theorem r_161_13 : xT.1 161 13 = some (.iconst 1, ((0, 0), ([.int 1], []))) := (kT_161 13).trans rfl
theorem r_161_14 : xT.1 161 14 = some (.invokevirtual 60, ((153, 2), ([], [0]))) := (kT_161 14).trans rfl
theorem r_161_17 : xT.1 161 17 = some (.ireturn, ((0, 0), ([], []))) := (kT_161 17).trans rfl
theorem r_161_18 : xT.1 161 18 = some (.aload_n 0, ((0, 0), ([], []))) := (kT_161 18).trans rfl
theorem r_161_19 : xT.1 161 19 = some (.getfield 7, ((9, 0), ([], []))) := (kT_161 19).trans rfl
theorem r_161_22 : xT.1 161 22 = some (.bipush 10, ((0, 0), ([.int 10], []))) := (kT_161 22).trans rfl
theorem r_161_24 : xT.1 161 24 = some (.iload_n 1, ((0, 0), ([], []))) := (kT_161 24).trans rfl
theorem r_161_25 : xT.1 161 25 = some (.iadd, ((0, 0), ([], []))) := (kT_161 25).trans rfl
theorem r_161_26 : xT.1 161 26 = some (.bipush 100, ((0, 0), ([.int 100], []))) := (kT_161 26).trans rfl
theorem r_161_28 : xT.1 161 28 = some (.iastore, ((0, 0), ([], []))) := (kT_161 28).trans rfl
theorem r_161_29 : xT.1 161 29 = some (.aload_n 0, ((0, 0), ([], []))) := (kT_161 29).trans rfl
theorem r_161_30 : xT.1 161 30 = some (.getfield 7, ((9, 0), ([], []))) := (kT_161 30).trans rfl
theorem r_161_33 : xT.1 161 33 = some (.iconst 0, ((0, 0), ([.int 0], []))) := (kT_161 33).trans rfl
theorem r_161_34 : xT.1 161 34 = some (.dup2, ((0, 0), ([], []))) := (kT_161 34).trans rfl
theorem r_161_35 : xT.1 161 35 = some (.iaload, ((0, 0), ([], []))) := (kT_161 35).trans rfl
theorem r_161_36 : xT.1 161 36 = some (.iconst 1, ((0, 0), ([.int 1], []))) := (kT_161 36).trans rfl
theorem r_161_37 : xT.1 161 37 = some (.iadd, ((0, 0), ([], []))) := (kT_161 37).trans rfl
theorem r_161_38 : xT.1 161 38 = some (.iastore, ((0, 0), ([], []))) := (kT_161 38).trans rfl
theorem r_161_39 : xT.1 161 39 = some (.aload_n 0, ((0, 0), ([], []))) := (kT_161 39).trans rfl
theorem r_161_40 : xT.1 161 40 = some (.iload_n 1, ((0, 0), ([], []))) := (kT_161 40).trans rfl
theorem r_161_41 : xT.1 161 41 = some (.invokevirtual 64, ((152, 2), ([], [0]))) := (kT_161 41).trans rfl
theorem r_161_44 : xT.1 161 44 = some (.ireturn, ((0, 0), ([], []))) := (kT_161 44).trans rfl
theorem kT_162 (pc : Nat) : xT.1 162 pc = xfind k_162 pc := rfl
theorem r_162_0 : xT.1 162 0 = some (.aload_n 0, ((0, 0), ([], []))) := (kT_162 0).trans rfl
theorem r_162_1 : xT.1 162 1 = some (.invokevirtual 67, ((155, 1), ([], [0]))) := (kT_162 1).trans rfl
theorem r_162_4 : xT.1 162 4 = some (.aload_n 0, ((0, 0), ([], []))) := (kT_162 4).trans rfl
theorem r_162_5 : xT.1 162 5 = some (.aload_n 0, ((0, 0), ([], []))) := (kT_162 5).trans rfl
theorem r_162_6 : xT.1 162 6 = some (.invokevirtual 70, ((161, 1), ([], [0]))) := (kT_162 6).trans rfl
theorem r_162_9 : xT.1 162 9 = some (.invokevirtual 74, ((156, 2), ([], [0]))) := (kT_162 9).trans rfl
theorem r_162_12 : xT.1 162 12 = some (.ireturn, ((0, 0), ([], []))) := (kT_162 12).trans rfl
theorem kT_163 (pc : Nat) : xT.1 163 pc = xfind k_163 pc := rfl
theorem r_163_0 : xT.1 163 0 = some (.iload_n 1, ((0, 0), ([], []))) := (kT_163 0).trans rfl
theorem r_163_1 : xT.1 163 1 = some (.iconst 1, ((0, 0), ([.int 1], []))) := (kT_163 1).trans rfl
theorem r_163_2 : xT.1 163 2 = some (.iconst 3, ((0, 0), ([.int 3], []))) := (kT_163 2).trans rfl
theorem r_163_3 : xT.1 163 3 = some (.invokestatic 52, ((150, 3), ([], [1]))) := (kT_163 3).trans rfl
theorem r_163_6 : xT.1 163 6 = some (.ifCond .ne 9, ((15, 0), ([], []))) := (kT_163 6).trans rfl
theorem r_163_9 : xT.1 163 9 = some (.aload_n 0, ((0, 0), ([], []))) := (kT_163 9).trans rfl
theorem r_163_10 : xT.1 163 10 = some (.iconst 1, ((0, 0), ([.int 1], []))) := (kT_163 10).trans rfl
theorem r_163_11 : xT.1 163 11 = some (.invokevirtual 60, ((153, 2), ([], [0]))) := (kT_163 11).trans rfl
theorem r_163_14 : xT.1 163 14 = some (.ireturn, ((0, 0), ([], []))) := (kT_163 14).trans rfl
theorem r_163_15 : xT.1 163 15 = some (.aload_n 0, ((0, 0), ([], []))) := (kT_163 15).trans rfl
theorem r_163_16 : xT.1 163 16 = some (.getfield 7, ((9, 0), ([], []))) := (kT_163 16).trans rfl
theorem r_163_19 : xT.1 163 19 = some (.iconst 1, ((0, 0), ([.int 1], []))) := (kT_163 19).trans rfl
theorem r_163_20 : xT.1 163 20 = some (.iaload, ((0, 0), ([], []))) := (kT_163 20).trans rfl
theorem r_163_21 : xT.1 163 21 = some (.istore_n 2, ((0, 0), ([], []))) := (kT_163 21).trans rfl
theorem r_163_22 : xT.1 163 22 = some (.iload_n 2, ((0, 0), ([], []))) := (kT_163 22).trans rfl
theorem r_163_23 : xT.1 163 23 = some (.bipush 6, ((0, 0), ([.int 6], []))) := (kT_163 23).trans rfl
theorem r_163_25 : xT.1 163 25 = some (.if_icmp .ne 9, ((34, 0), ([], []))) := (kT_163 25).trans rfl
theorem r_163_28 : xT.1 163 28 = some (.aload_n 0, ((0, 0), ([], []))) := (kT_163 28).trans rfl
theorem r_163_29 : xT.1 163 29 = some (.iconst 2, ((0, 0), ([.int 2], []))) := (kT_163 29).trans rfl
theorem r_163_30 : xT.1 163 30 = some (.invokevirtual 60, ((153, 2), ([], [0]))) := (kT_163 30).trans rfl
theorem r_163_33 : xT.1 163 33 = some (.ireturn, ((0, 0), ([], []))) := (kT_163 33).trans rfl
theorem r_163_34 : xT.1 163 34 = some (.aload_n 0, ((0, 0), ([], []))) := (kT_163 34).trans rfl
theorem r_163_35 : xT.1 163 35 = some (.getfield 7, ((9, 0), ([], []))) := (kT_163 35).trans rfl
theorem r_163_38 : xT.1 163 38 = some (.bipush 120, ((0, 0), ([.int 120], []))) := (kT_163 38).trans rfl
theorem r_163_40 : xT.1 163 40 = some (.iload_n 2, ((0, 0), ([], []))) := (kT_163 40).trans rfl
theorem r_163_41 : xT.1 163 41 = some (.iadd, ((0, 0), ([], []))) := (kT_163 41).trans rfl
theorem r_163_42 : xT.1 163 42 = some (.aload_n 0, ((0, 0), ([], []))) := (kT_163 42).trans rfl
theorem r_163_43 : xT.1 163 43 = some (.getfield 7, ((9, 0), ([], []))) := (kT_163 43).trans rfl
theorem r_163_46 : xT.1 163 46 = some (.iconst 2, ((0, 0), ([.int 2], []))) := (kT_163 46).trans rfl
theorem r_163_47 : xT.1 163 47 = some (.iaload, ((0, 0), ([], []))) := (kT_163 47).trans rfl
theorem r_163_48 : xT.1 163 48 = some (.iastore, ((0, 0), ([], []))) := (kT_163 48).trans rfl
theorem r_163_49 : xT.1 163 49 = some (.aload_n 0, ((0, 0), ([], []))) := (kT_163 49).trans rfl
theorem r_163_50 : xT.1 163 50 = some (.getfield 7, ((9, 0), ([], []))) := (kT_163 50).trans rfl
theorem r_163_53 : xT.1 163 53 = some (.bipush 126, ((0, 0), ([.int 126], []))) := (kT_163 53).trans rfl
theorem r_163_55 : xT.1 163 55 = some (.iload_n 2, ((0, 0), ([], []))) := (kT_163 55).trans rfl
theorem r_163_56 : xT.1 163 56 = some (.iadd, ((0, 0), ([], []))) := (kT_163 56).trans rfl
theorem r_163_57 : xT.1 163 57 = some (.iload_n 1, ((0, 0), ([], []))) := (kT_163 57).trans rfl
theorem r_163_58 : xT.1 163 58 = some (.iastore, ((0, 0), ([], []))) := (kT_163 58).trans rfl
theorem r_163_59 : xT.1 163 59 = some (.aload_n 0, ((0, 0), ([], []))) := (kT_163 59).trans rfl
theorem r_163_60 : xT.1 163 60 = some (.getfield 7, ((9, 0), ([], []))) := (kT_163 60).trans rfl
theorem r_163_63 : xT.1 163 63 = some (.sipush 132, ((0, 0), ([.int 132], []))) := (kT_163 63).trans rfl
theorem r_163_66 : xT.1 163 66 = some (.iload_n 2, ((0, 0), ([], []))) := (kT_163 66).trans rfl
theorem r_163_67 : xT.1 163 67 = some (.iadd, ((0, 0), ([], []))) := (kT_163 67).trans rfl
theorem r_163_68 : xT.1 163 68 = some (.iconst 0, ((0, 0), ([.int 0], []))) := (kT_163 68).trans rfl
theorem r_163_69 : xT.1 163 69 = some (.iastore, ((0, 0), ([], []))) := (kT_163 69).trans rfl
theorem r_163_70 : xT.1 163 70 = some (.aload_n 0, ((0, 0), ([], []))) := (kT_163 70).trans rfl
theorem r_163_71 : xT.1 163 71 = some (.getfield 7, ((9, 0), ([], []))) := (kT_163 71).trans rfl
theorem r_163_74 : xT.1 163 74 = some (.iconst 1, ((0, 0), ([.int 1], []))) := (kT_163 74).trans rfl
theorem r_163_75 : xT.1 163 75 = some (.dup2, ((0, 0), ([], []))) := (kT_163 75).trans rfl
theorem r_163_76 : xT.1 163 76 = some (.iaload, ((0, 0), ([], []))) := (kT_163 76).trans rfl
theorem r_163_77 : xT.1 163 77 = some (.iconst 1, ((0, 0), ([.int 1], []))) := (kT_163 77).trans rfl
theorem r_163_78 : xT.1 163 78 = some (.iadd, ((0, 0), ([], []))) := (kT_163 78).trans rfl
theorem r_163_79 : xT.1 163 79 = some (.iastore, ((0, 0), ([], []))) := (kT_163 79).trans rfl
theorem r_163_80 : xT.1 163 80 = some (.aload_n 0, ((0, 0), ([], []))) := (kT_163 80).trans rfl
theorem r_163_81 : xT.1 163 81 = some (.getfield 7, ((9, 0), ([], []))) := (kT_163 81).trans rfl
theorem r_163_84 : xT.1 163 84 = some (.iconst 2, ((0, 0), ([.int 2], []))) := (kT_163 84).trans rfl
theorem r_163_85 : xT.1 163 85 = some (.dup2, ((0, 0), ([], []))) := (kT_163 85).trans rfl
theorem r_163_86 : xT.1 163 86 = some (.iaload, ((0, 0), ([], []))) := (kT_163 86).trans rfl
theorem r_163_87 : xT.1 163 87 = some (.iconst 1, ((0, 0), ([.int 1], []))) := (kT_163 87).trans rfl
theorem r_163_88 : xT.1 163 88 = some (.iadd, ((0, 0), ([], []))) := (kT_163 88).trans rfl
theorem r_163_89 : xT.1 163 89 = some (.iastore, ((0, 0), ([], []))) := (kT_163 89).trans rfl
theorem r_163_90 : xT.1 163 90 = some (.aload_n 0, ((0, 0), ([], []))) := (kT_163 90).trans rfl
theorem r_163_91 : xT.1 163 91 = some (.aload_n 0, ((0, 0), ([], []))) := (kT_163 91).trans rfl
theorem r_163_92 : xT.1 163 92 = some (.getfield 7, ((9, 0), ([], []))) := (kT_163 92).trans rfl
theorem r_163_95 : xT.1 163 95 = some (.bipush 120, ((0, 0), ([.int 120], []))) := (kT_163 95).trans rfl
theorem r_163_97 : xT.1 163 97 = some (.iload_n 2, ((0, 0), ([], []))) := (kT_163 97).trans rfl
theorem r_163_98 : xT.1 163 98 = some (.iadd, ((0, 0), ([], []))) := (kT_163 98).trans rfl
theorem r_163_99 : xT.1 163 99 = some (.iaload, ((0, 0), ([], []))) := (kT_163 99).trans rfl
theorem r_163_100 : xT.1 163 100 = some (.invokevirtual 64, ((152, 2), ([], [0]))) := (kT_163 100).trans rfl
theorem r_163_103 : xT.1 163 103 = some (.ireturn, ((0, 0), ([], []))) := (kT_163 103).trans rfl
theorem kT_164 (pc : Nat) : xT.1 164 pc = xfind k_164 pc := rfl
theorem r_164_0 : xT.1 164 0 = some (.aload_n 0, ((0, 0), ([], []))) := (kT_164 0).trans rfl
theorem r_164_1 : xT.1 164 1 = some (.invokevirtual 67, ((155, 1), ([], [0]))) := (kT_164 1).trans rfl
theorem r_164_4 : xT.1 164 4 = some (.aload_n 0, ((0, 0), ([], []))) := (kT_164 4).trans rfl
theorem r_164_5 : xT.1 164 5 = some (.aload_n 0, ((0, 0), ([], []))) := (kT_164 5).trans rfl
theorem r_164_6 : xT.1 164 6 = some (.iload_n 1, ((0, 0), ([], []))) := (kT_164 6).trans rfl
theorem r_164_7 : xT.1 164 7 = some (.invokevirtual 77, ((163, 2), ([], [0]))) := (kT_164 7).trans rfl
theorem r_164_10 : xT.1 164 10 = some (.invokevirtual 74, ((156, 2), ([], [0]))) := (kT_164 10).trans rfl
theorem r_164_13 : xT.1 164 13 = some (.ireturn, ((0, 0), ([], []))) := (kT_164 13).trans rfl
theorem kT_165 (pc : Nat) : xT.1 165 pc = xfind k_165 pc := rfl
theorem r_165_0 : xT.1 165 0 = some (.iload_n 0, ((0, 0), ([], []))) := (kT_165 0).trans rfl
theorem r_165_1 : xT.1 165 1 = some (.iconst 0, ((0, 0), ([.int 0], []))) := (kT_165 1).trans rfl
theorem r_165_2 : xT.1 165 2 = some (.sipush 999, ((0, 0), ([.int 999], []))) := (kT_165 2).trans rfl
theorem r_165_5 : xT.1 165 5 = some (.invokestatic 52, ((150, 3), ([], [1]))) := (kT_165 5).trans rfl
theorem r_165_8 : xT.1 165 8 = some (.ifCond .eq 38, ((46, 0), ([], []))) := (kT_165 8).trans rfl
theorem r_165_11 : xT.1 165 11 = some (.iload_n 1, ((0, 0), ([], []))) := (kT_165 11).trans rfl
theorem r_165_12 : xT.1 165 12 = some (.iload_n 0, ((0, 0), ([], []))) := (kT_165 12).trans rfl
theorem r_165_13 : xT.1 165 13 = some (.sipush 999, ((0, 0), ([.int 999], []))) := (kT_165 13).trans rfl
theorem r_165_16 : xT.1 165 16 = some (.invokestatic 52, ((150, 3), ([], [1]))) := (kT_165 16).trans rfl
theorem r_165_19 : xT.1 165 19 = some (.ifCond .eq 27, ((46, 0), ([], []))) := (kT_165 19).trans rfl
theorem r_165_22 : xT.1 165 22 = some (.iload_n 2, ((0, 0), ([], []))) := (kT_165 22).trans rfl
theorem r_165_23 : xT.1 165 23 = some (.iconst 1, ((0, 0), ([.int 1], []))) := (kT_165 23).trans rfl
theorem r_165_24 : xT.1 165 24 = some (.bipush 9, ((0, 0), ([.int 9], []))) := (kT_165 24).trans rfl
theorem r_165_26 : xT.1 165 26 = some (.invokestatic 52, ((150, 3), ([], [1]))) := (kT_165 26).trans rfl
theorem r_165_29 : xT.1 165 29 = some (.ifCond .eq 17, ((46, 0), ([], []))) := (kT_165 29).trans rfl
theorem r_165_32 : xT.1 165 32 = some (.iload_n 3, ((0, 0), ([], []))) := (kT_165 32).trans rfl
theorem r_165_33 : xT.1 165 33 = some (.iconst 1, ((0, 0), ([.int 1], []))) := (kT_165 33).trans rfl
theorem r_165_34 : xT.1 165 34 = some (.bipush 20, ((0, 0), ([.int 20], []))) := (kT_165 34).trans rfl
theorem r_165_36 : xT.1 165 36 = some (.invokestatic 52, ((150, 3), ([], [1]))) := (kT_165 36).trans rfl
theorem r_165_39 : xT.1 165 39 = some (.ifCond .eq 7, ((46, 0), ([], []))) := (kT_165 39).trans rfl
theorem r_165_42 : xT.1 165 42 = some (.iconst 1, ((0, 0), ([.int 1], []))) := (kT_165 42).trans rfl
theorem r_165_43 : xT.1 165 43 = some (.goto 4, ((47, 0), ([], []))) := (kT_165 43).trans rfl
theorem r_165_46 : xT.1 165 46 = some (.iconst 0, ((0, 0), ([.int 0], []))) := (kT_165 46).trans rfl
theorem r_165_47 : xT.1 165 47 = some (.ireturn, ((0, 0), ([], []))) := (kT_165 47).trans rfl
theorem kT_166 (pc : Nat) : xT.1 166 pc = xfind k_166 pc := rfl
theorem r_166_0 : xT.1 166 0 = some (.aload_n 0, ((0, 0), ([], []))) := (kT_166 0).trans rfl
theorem r_166_1 : xT.1 166 1 = some (.iload_n 1, ((0, 0), ([], []))) := (kT_166 1).trans rfl
theorem r_166_2 : xT.1 166 2 = some (.invokevirtual 80, ((157, 2), ([], [0]))) := (kT_166 2).trans rfl
theorem r_166_5 : xT.1 166 5 = some (.ifCond .ne 9, ((14, 0), ([], []))) := (kT_166 5).trans rfl
theorem r_166_8 : xT.1 166 8 = some (.aload_n 0, ((0, 0), ([], []))) := (kT_166 8).trans rfl
theorem r_166_9 : xT.1 166 9 = some (.iconst 1, ((0, 0), ([.int 1], []))) := (kT_166 9).trans rfl
theorem r_166_10 : xT.1 166 10 = some (.invokevirtual 60, ((153, 2), ([], [0]))) := (kT_166 10).trans rfl
theorem r_166_13 : xT.1 166 13 = some (.ireturn, ((0, 0), ([], []))) := (kT_166 13).trans rfl
theorem r_166_14 : xT.1 166 14 = some (.aload_n 0, ((0, 0), ([], []))) := (kT_166 14).trans rfl
theorem r_166_15 : xT.1 166 15 = some (.iload_n 2, ((0, 0), ([], []))) := (kT_166 15).trans rfl
theorem r_166_16 : xT.1 166 16 = some (.invokevirtual 84, ((158, 2), ([], [0]))) := (kT_166 16).trans rfl
theorem r_166_19 : xT.1 166 19 = some (.istore 7, ((0, 0), ([], []))) := (kT_166 19).trans rfl
theorem r_166_21 : xT.1 166 21 = some (.iload 7, ((0, 0), ([], []))) := (kT_166 21).trans rfl
theorem r_166_23 : xT.1 166 23 = some (.iconst (-1), ((0, 0), ([.int (-1)], []))) := (kT_166 23).trans rfl
theorem r_166_24 : xT.1 166 24 = some (.if_icmp .ne 9, ((33, 0), ([], []))) := (kT_166 24).trans rfl
theorem r_166_27 : xT.1 166 27 = some (.aload_n 0, ((0, 0), ([], []))) := (kT_166 27).trans rfl
theorem r_166_28 : xT.1 166 28 = some (.iconst 2, ((0, 0), ([.int 2], []))) := (kT_166 28).trans rfl
theorem r_166_29 : xT.1 166 29 = some (.invokevirtual 60, ((153, 2), ([], [0]))) := (kT_166 29).trans rfl
theorem r_166_32 : xT.1 166 32 = some (.ireturn, ((0, 0), ([], []))) := (kT_166 32).trans rfl
theorem r_166_33 : xT.1 166 33 = some (.iload_n 3, ((0, 0), ([], []))) := (kT_166 33).trans rfl
theorem r_166_34 : xT.1 166 34 = some (.iload 4, ((0, 0), ([], []))) := (kT_166 34).trans rfl
theorem r_166_36 : xT.1 166 36 = some (.iload 5, ((0, 0), ([], []))) := (kT_166 36).trans rfl
theorem r_166_38 : xT.1 166 38 = some (.iload 6, ((0, 0), ([], []))) := (kT_166 38).trans rfl
theorem r_166_40 : xT.1 166 40 = some (.invokestatic 87, ((165, 4), ([], [1]))) := (kT_166 40).trans rfl
theorem r_166_43 : xT.1 166 43 = some (.ifCond .ne 9, ((52, 0), ([], []))) := (kT_166 43).trans rfl
theorem r_166_46 : xT.1 166 46 = some (.aload_n 0, ((0, 0), ([], []))) := (kT_166 46).trans rfl
theorem r_166_47 : xT.1 166 47 = some (.iconst 3, ((0, 0), ([.int 3], []))) := (kT_166 47).trans rfl
theorem r_166_48 : xT.1 166 48 = some (.invokevirtual 60, ((153, 2), ([], [0]))) := (kT_166 48).trans rfl
theorem r_166_51 : xT.1 166 51 = some (.ireturn, ((0, 0), ([], []))) := (kT_166 51).trans rfl
theorem r_166_52 : xT.1 166 52 = some (.aload_n 0, ((0, 0), ([], []))) := (kT_166 52).trans rfl
theorem r_166_53 : xT.1 166 53 = some (.getfield 7, ((9, 0), ([], []))) := (kT_166 53).trans rfl
theorem r_166_56 : xT.1 166 56 = some (.bipush 15, ((0, 0), ([.int 15], []))) := (kT_166 56).trans rfl
theorem r_166_58 : xT.1 166 58 = some (.iload_n 1, ((0, 0), ([], []))) := (kT_166 58).trans rfl
theorem r_166_59 : xT.1 166 59 = some (.iadd, ((0, 0), ([], []))) := (kT_166 59).trans rfl
theorem r_166_60 : xT.1 166 60 = some (.iaload, ((0, 0), ([], []))) := (kT_166 60).trans rfl
theorem r_166_61 : xT.1 166 61 = some (.iconst 1, ((0, 0), ([.int 1], []))) := (kT_166 61).trans rfl
theorem r_166_62 : xT.1 166 62 = some (.if_icmp .ne 9, ((71, 0), ([], []))) := (kT_166 62).trans rfl
theorem r_166_65 : xT.1 166 65 = some (.aload_n 0, ((0, 0), ([], []))) := (kT_166 65).trans rfl
theorem r_166_66 : xT.1 166 66 = some (.iconst 4, ((0, 0), ([.int 4], []))) := (kT_166 66).trans rfl
theorem r_166_67 : xT.1 166 67 = some (.invokevirtual 60, ((153, 2), ([], [0]))) := (kT_166 67).trans rfl
theorem r_166_70 : xT.1 166 70 = some (.ireturn, ((0, 0), ([], []))) := (kT_166 70).trans rfl
theorem r_166_71 : xT.1 166 71 = some (.aload_n 0, ((0, 0), ([], []))) := (kT_166 71).trans rfl
theorem r_166_72 : xT.1 166 72 = some (.iload 7, ((0, 0), ([], []))) := (kT_166 72).trans rfl
theorem r_166_74 : xT.1 166 74 = some (.iload_n 1, ((0, 0), ([], []))) := (kT_166 74).trans rfl
theorem r_166_75 : xT.1 166 75 = some (.invokevirtual 91, ((160, 3), ([], [0]))) := (kT_166 75).trans rfl
theorem r_166_78 : xT.1 166 78 = some (.iconst (-1), ((0, 0), ([.int (-1)], []))) := (kT_166 78).trans rfl
theorem r_166_79 : xT.1 166 79 = some (.if_icmp .ne 17, ((96, 0), ([], []))) := (kT_166 79).trans rfl
theorem r_166_82 : xT.1 166 82 = some (.aload_n 0, ((0, 0), ([], []))) := (kT_166 82).trans rfl
theorem r_166_83 : xT.1 166 83 = some (.getfield 7, ((9, 0), ([], []))) := (kT_166 83).trans rfl
theorem r_166_86 : xT.1 166 86 = some (.bipush 10, ((0, 0), ([.int 10], []))) := (kT_166 86).trans rfl
theorem r_166_88 : xT.1 166 88 = some (.iload_n 1, ((0, 0), ([], []))) := (kT_166 88).trans rfl
theorem r_166_89 : xT.1 166 89 = some (.iadd, ((0, 0), ([], []))) := (kT_166 89).trans rfl
theorem r_166_90 : xT.1 166 90 = some (.iaload, ((0, 0), ([], []))) := (kT_166 90).trans rfl
theorem r_166_91 : xT.1 166 91 = some (.iload 6, ((0, 0), ([], []))) := (kT_166 91).trans rfl
theorem r_166_93 : xT.1 166 93 = some (.if_icmp .ge 9, ((102, 0), ([], []))) := (kT_166 93).trans rfl
theorem r_166_96 : xT.1 166 96 = some (.aload_n 0, ((0, 0), ([], []))) := (kT_166 96).trans rfl
theorem r_166_97 : xT.1 166 97 = some (.iconst 5, ((0, 0), ([.int 5], []))) := (kT_166 97).trans rfl
theorem r_166_98 : xT.1 166 98 = some (.invokevirtual 60, ((153, 2), ([], [0]))) := (kT_166 98).trans rfl
theorem r_166_101 : xT.1 166 101 = some (.ireturn, ((0, 0), ([], []))) := (kT_166 101).trans rfl
theorem r_166_102 : xT.1 166 102 = some (.iload 7, ((0, 0), ([], []))) := (kT_166 102).trans rfl
theorem r_166_104 : xT.1 166 104 = some (.aload_n 0, ((0, 0), ([], []))) := (kT_166 104).trans rfl
theorem r_166_105 : xT.1 166 105 = some (.getfield 7, ((9, 0), ([], []))) := (kT_166 105).trans rfl
theorem r_166_108 : xT.1 166 108 = some (.sipush 132, ((0, 0), ([.int 132], []))) := (kT_166 108).trans rfl
theorem r_166_111 : xT.1 166 111 = some (.iload 7, ((0, 0), ([], []))) := (kT_166 111).trans rfl
theorem r_166_113 : xT.1 166 113 = some (.iadd, ((0, 0), ([], []))) := (kT_166 113).trans rfl
theorem r_166_114 : xT.1 166 114 = some (.iaload, ((0, 0), ([], []))) := (kT_166 114).trans rfl
theorem r_166_115 : xT.1 166 115 = some (.invokestatic 56, ((159, 2), ([], [1]))) := (kT_166 115).trans rfl
theorem r_166_118 : xT.1 166 118 = some (.istore 8, ((0, 0), ([], []))) := (kT_166 118).trans rfl
theorem r_166_120 : xT.1 166 120 = some (.aload_n 0, ((0, 0), ([], []))) := (kT_166 120).trans rfl
theorem r_166_121 : xT.1 166 121 = some (.getfield 7, ((9, 0), ([], []))) := (kT_166 121).trans rfl
theorem r_166_124 : xT.1 166 124 = some (.iload 8, ((0, 0), ([], []))) := (kT_166 124).trans rfl
theorem r_166_126 : xT.1 166 126 = some (.iconst 0, ((0, 0), ([.int 0], []))) := (kT_166 126).trans rfl
theorem r_166_127 : xT.1 166 127 = some (.iadd, ((0, 0), ([], []))) := (kT_166 127).trans rfl
theorem r_166_128 : xT.1 166 128 = some (.iload_n 1, ((0, 0), ([], []))) := (kT_166 128).trans rfl
theorem r_166_129 : xT.1 166 129 = some (.iastore, ((0, 0), ([], []))) := (kT_166 129).trans rfl
theorem r_166_130 : xT.1 166 130 = some (.aload_n 0, ((0, 0), ([], []))) := (kT_166 130).trans rfl
theorem r_166_131 : xT.1 166 131 = some (.getfield 7, ((9, 0), ([], []))) := (kT_166 131).trans rfl
theorem r_166_134 : xT.1 166 134 = some (.iload 8, ((0, 0), ([], []))) := (kT_166 134).trans rfl
theorem r_166_136 : xT.1 166 136 = some (.iconst 1, ((0, 0), ([.int 1], []))) := (kT_166 136).trans rfl
theorem r_166_137 : xT.1 166 137 = some (.iadd, ((0, 0), ([], []))) := (kT_166 137).trans rfl
theorem r_166_138 : xT.1 166 138 = some (.iload_n 3, ((0, 0), ([], []))) := (kT_166 138).trans rfl
theorem r_166_139 : xT.1 166 139 = some (.iastore, ((0, 0), ([], []))) := (kT_166 139).trans rfl
theorem r_166_140 : xT.1 166 140 = some (.aload_n 0, ((0, 0), ([], []))) := (kT_166 140).trans rfl
theorem r_166_141 : xT.1 166 141 = some (.getfield 7, ((9, 0), ([], []))) := (kT_166 141).trans rfl
theorem r_166_144 : xT.1 166 144 = some (.iload 8, ((0, 0), ([], []))) := (kT_166 144).trans rfl
theorem r_166_146 : xT.1 166 146 = some (.iconst 2, ((0, 0), ([.int 2], []))) := (kT_166 146).trans rfl
theorem r_166_147 : xT.1 166 147 = some (.iadd, ((0, 0), ([], []))) := (kT_166 147).trans rfl
theorem r_166_148 : xT.1 166 148 = some (.iload 4, ((0, 0), ([], []))) := (kT_166 148).trans rfl
theorem r_166_150 : xT.1 166 150 = some (.iastore, ((0, 0), ([], []))) := (kT_166 150).trans rfl
theorem r_166_151 : xT.1 166 151 = some (.aload_n 0, ((0, 0), ([], []))) := (kT_166 151).trans rfl
theorem r_166_152 : xT.1 166 152 = some (.getfield 7, ((9, 0), ([], []))) := (kT_166 152).trans rfl
theorem r_166_155 : xT.1 166 155 = some (.iload 8, ((0, 0), ([], []))) := (kT_166 155).trans rfl
theorem r_166_157 : xT.1 166 157 = some (.iconst 3, ((0, 0), ([.int 3], []))) := (kT_166 157).trans rfl
theorem r_166_158 : xT.1 166 158 = some (.iadd, ((0, 0), ([], []))) := (kT_166 158).trans rfl
theorem r_166_159 : xT.1 166 159 = some (.iload 5, ((0, 0), ([], []))) := (kT_166 159).trans rfl
theorem r_166_161 : xT.1 166 161 = some (.iastore, ((0, 0), ([], []))) := (kT_166 161).trans rfl
theorem r_166_162 : xT.1 166 162 = some (.aload_n 0, ((0, 0), ([], []))) := (kT_166 162).trans rfl
theorem r_166_163 : xT.1 166 163 = some (.getfield 7, ((9, 0), ([], []))) := (kT_166 163).trans rfl
theorem r_166_166 : xT.1 166 166 = some (.iload 8, ((0, 0), ([], []))) := (kT_166 166).trans rfl
theorem r_166_168 : xT.1 166 168 = some (.iconst 4, ((0, 0), ([.int 4], []))) := (kT_166 168).trans rfl
theorem r_166_169 : xT.1 166 169 = some (.iadd, ((0, 0), ([], []))) := (kT_166 169).trans rfl
theorem r_166_170 : xT.1 166 170 = some (.iload 6, ((0, 0), ([], []))) := (kT_166 170).trans rfl
theorem r_166_172 : xT.1 166 172 = some (.iastore, ((0, 0), ([], []))) := (kT_166 172).trans rfl
theorem r_166_173 : xT.1 166 173 = some (.aload_n 0, ((0, 0), ([], []))) := (kT_166 173).trans rfl
theorem r_166_174 : xT.1 166 174 = some (.getfield 7, ((9, 0), ([], []))) := (kT_166 174).trans rfl
theorem r_166_177 : xT.1 166 177 = some (.sipush 132, ((0, 0), ([.int 132], []))) := (kT_166 177).trans rfl
theorem r_166_180 : xT.1 166 180 = some (.iload 7, ((0, 0), ([], []))) := (kT_166 180).trans rfl
theorem r_166_182 : xT.1 166 182 = some (.iadd, ((0, 0), ([], []))) := (kT_166 182).trans rfl
theorem r_166_183 : xT.1 166 183 = some (.dup2, ((0, 0), ([], []))) := (kT_166 183).trans rfl
theorem r_166_184 : xT.1 166 184 = some (.iaload, ((0, 0), ([], []))) := (kT_166 184).trans rfl
theorem r_166_185 : xT.1 166 185 = some (.iconst 1, ((0, 0), ([.int 1], []))) := (kT_166 185).trans rfl
theorem r_166_186 : xT.1 166 186 = some (.iadd, ((0, 0), ([], []))) := (kT_166 186).trans rfl
theorem r_166_187 : xT.1 166 187 = some (.iastore, ((0, 0), ([], []))) := (kT_166 187).trans rfl
theorem r_166_188 : xT.1 166 188 = some (.aload_n 0, ((0, 0), ([], []))) := (kT_166 188).trans rfl
theorem r_166_189 : xT.1 166 189 = some (.getfield 7, ((9, 0), ([], []))) := (kT_166 189).trans rfl
theorem r_166_192 : xT.1 166 192 = some (.bipush 10, ((0, 0), ([.int 10], []))) := (kT_166 192).trans rfl
theorem r_166_194 : xT.1 166 194 = some (.iload_n 1, ((0, 0), ([], []))) := (kT_166 194).trans rfl
theorem r_166_195 : xT.1 166 195 = some (.iadd, ((0, 0), ([], []))) := (kT_166 195).trans rfl
theorem r_166_196 : xT.1 166 196 = some (.dup2, ((0, 0), ([], []))) := (kT_166 196).trans rfl
theorem r_166_197 : xT.1 166 197 = some (.iaload, ((0, 0), ([], []))) := (kT_166 197).trans rfl
theorem r_166_198 : xT.1 166 198 = some (.iload 6, ((0, 0), ([], []))) := (kT_166 198).trans rfl
theorem r_166_200 : xT.1 166 200 = some (.isub, ((0, 0), ([], []))) := (kT_166 200).trans rfl
theorem r_166_201 : xT.1 166 201 = some (.iastore, ((0, 0), ([], []))) := (kT_166 201).trans rfl
theorem r_166_202 : xT.1 166 202 = some (.aload_n 0, ((0, 0), ([], []))) := (kT_166 202).trans rfl
theorem r_166_203 : xT.1 166 203 = some (.aload_n 0, ((0, 0), ([], []))) := (kT_166 203).trans rfl
theorem r_166_204 : xT.1 166 204 = some (.getfield 7, ((9, 0), ([], []))) := (kT_166 204).trans rfl
theorem r_166_207 : xT.1 166 207 = some (.bipush 10, ((0, 0), ([.int 10], []))) := (kT_166 207).trans rfl
theorem r_166_209 : xT.1 166 209 = some (.iload_n 1, ((0, 0), ([], []))) := (kT_166 209).trans rfl
theorem r_166_210 : xT.1 166 210 = some (.iadd, ((0, 0), ([], []))) := (kT_166 210).trans rfl
theorem r_166_211 : xT.1 166 211 = some (.iaload, ((0, 0), ([], []))) := (kT_166 211).trans rfl
theorem r_166_212 : xT.1 166 212 = some (.invokevirtual 64, ((152, 2), ([], [0]))) := (kT_166 212).trans rfl
theorem r_166_215 : xT.1 166 215 = some (.ireturn, ((0, 0), ([], []))) := (kT_166 215).trans rfl
theorem kT_167 (pc : Nat) : xT.1 167 pc = xfind k_167 pc := rfl
theorem r_167_0 : xT.1 167 0 = some (.aload_n 0, ((0, 0), ([], []))) := (kT_167 0).trans rfl
theorem r_167_1 : xT.1 167 1 = some (.invokevirtual 67, ((155, 1), ([], [0]))) := (kT_167 1).trans rfl
theorem r_167_4 : xT.1 167 4 = some (.aload_n 0, ((0, 0), ([], []))) := (kT_167 4).trans rfl
theorem r_167_5 : xT.1 167 5 = some (.aload_n 0, ((0, 0), ([], []))) := (kT_167 5).trans rfl
theorem r_167_6 : xT.1 167 6 = some (.iload_n 1, ((0, 0), ([], []))) := (kT_167 6).trans rfl
theorem r_167_7 : xT.1 167 7 = some (.iload_n 2, ((0, 0), ([], []))) := (kT_167 7).trans rfl
theorem r_167_8 : xT.1 167 8 = some (.iload_n 3, ((0, 0), ([], []))) := (kT_167 8).trans rfl
theorem r_167_9 : xT.1 167 9 = some (.iload 4, ((0, 0), ([], []))) := (kT_167 9).trans rfl
theorem r_167_11 : xT.1 167 11 = some (.iload 5, ((0, 0), ([], []))) := (kT_167 11).trans rfl
theorem r_167_13 : xT.1 167 13 = some (.iload 6, ((0, 0), ([], []))) := (kT_167 13).trans rfl
theorem r_167_15 : xT.1 167 15 = some (.invokevirtual 94, ((166, 7), ([], [0]))) := (kT_167 15).trans rfl
theorem r_167_18 : xT.1 167 18 = some (.invokevirtual 74, ((156, 2), ([], [0]))) := (kT_167 18).trans rfl
theorem r_167_21 : xT.1 167 21 = some (.ireturn, ((0, 0), ([], []))) := (kT_167 21).trans rfl
theorem kT_168 (pc : Nat) : xT.1 168 pc = xfind k_168 pc := rfl
theorem r_168_0 : xT.1 168 0 = some (.aload_n 0, ((0, 0), ([], []))) := (kT_168 0).trans rfl
theorem r_168_1 : xT.1 168 1 = some (.getfield 7, ((9, 0), ([], []))) := (kT_168 1).trans rfl
theorem r_168_4 : xT.1 168 4 = some (.iload_n 1, ((0, 0), ([], []))) := (kT_168 4).trans rfl
theorem r_168_5 : xT.1 168 5 = some (.iconst 4, ((0, 0), ([.int 4], []))) := (kT_168 5).trans rfl
theorem r_168_6 : xT.1 168 6 = some (.iadd, ((0, 0), ([], []))) := (kT_168 6).trans rfl
theorem r_168_7 : xT.1 168 7 = some (.iaload, ((0, 0), ([], []))) := (kT_168 7).trans rfl
theorem r_168_8 : xT.1 168 8 = some (.bipush 10, ((0, 0), ([.int 10], []))) := (kT_168 8).trans rfl
theorem r_168_10 : xT.1 168 10 = some (.aload_n 0, ((0, 0), ([], []))) := (kT_168 10).trans rfl
theorem r_168_11 : xT.1 168 11 = some (.getfield 7, ((9, 0), ([], []))) := (kT_168 11).trans rfl
theorem r_168_14 : xT.1 168 14 = some (.iload_n 1, ((0, 0), ([], []))) := (kT_168 14).trans rfl
theorem r_168_15 : xT.1 168 15 = some (.iconst 3, ((0, 0), ([.int 3], []))) := (kT_168 15).trans rfl
theorem r_168_16 : xT.1 168 16 = some (.iadd, ((0, 0), ([], []))) := (kT_168 16).trans rfl
theorem r_168_17 : xT.1 168 17 = some (.iaload, ((0, 0), ([], []))) := (kT_168 17).trans rfl
theorem r_168_18 : xT.1 168 18 = some (.isub, ((0, 0), ([], []))) := (kT_168 18).trans rfl
theorem r_168_19 : xT.1 168 19 = some (.imul, ((0, 0), ([], []))) := (kT_168 19).trans rfl
theorem r_168_20 : xT.1 168 20 = some (.aload_n 0, ((0, 0), ([], []))) := (kT_168 20).trans rfl
theorem r_168_21 : xT.1 168 21 = some (.getfield 7, ((9, 0), ([], []))) := (kT_168 21).trans rfl
theorem r_168_24 : xT.1 168 24 = some (.iload_n 1, ((0, 0), ([], []))) := (kT_168 24).trans rfl
theorem r_168_25 : xT.1 168 25 = some (.iconst 3, ((0, 0), ([.int 3], []))) := (kT_168 25).trans rfl
theorem r_168_26 : xT.1 168 26 = some (.iadd, ((0, 0), ([], []))) := (kT_168 26).trans rfl
theorem r_168_27 : xT.1 168 27 = some (.iaload, ((0, 0), ([], []))) := (kT_168 27).trans rfl
theorem r_168_28 : xT.1 168 28 = some (.idiv, ((0, 0), ([], []))) := (kT_168 28).trans rfl
theorem r_168_29 : xT.1 168 29 = some (.ireturn, ((0, 0), ([], []))) := (kT_168 29).trans rfl
theorem kT_169 (pc : Nat) : xT.1 169 pc = xfind k_169 pc := rfl
theorem r_169_0 : xT.1 169 0 = some (.aload_n 0, ((0, 0), ([], []))) := (kT_169 0).trans rfl
theorem r_169_1 : xT.1 169 1 = some (.getfield 7, ((9, 0), ([], []))) := (kT_169 1).trans rfl
theorem r_169_4 : xT.1 169 4 = some (.iload_n 1, ((0, 0), ([], []))) := (kT_169 4).trans rfl
theorem r_169_5 : xT.1 169 5 = some (.iconst 0, ((0, 0), ([.int 0], []))) := (kT_169 5).trans rfl
theorem r_169_6 : xT.1 169 6 = some (.iadd, ((0, 0), ([], []))) := (kT_169 6).trans rfl
theorem r_169_7 : xT.1 169 7 = some (.iaload, ((0, 0), ([], []))) := (kT_169 7).trans rfl
theorem r_169_8 : xT.1 169 8 = some (.istore 4, ((0, 0), ([], []))) := (kT_169 8).trans rfl
theorem r_169_10 : xT.1 169 10 = some (.iload_n 3, ((0, 0), ([], []))) := (kT_169 10).trans rfl
theorem r_169_11 : xT.1 169 11 = some (.aload_n 0, ((0, 0), ([], []))) := (kT_169 11).trans rfl
theorem r_169_12 : xT.1 169 12 = some (.getfield 7, ((9, 0), ([], []))) := (kT_169 12).trans rfl
theorem r_169_15 : xT.1 169 15 = some (.iload_n 1, ((0, 0), ([], []))) := (kT_169 15).trans rfl
theorem r_169_16 : xT.1 169 16 = some (.iconst 1, ((0, 0), ([.int 1], []))) := (kT_169 16).trans rfl
theorem r_169_17 : xT.1 169 17 = some (.iadd, ((0, 0), ([], []))) := (kT_169 17).trans rfl
theorem r_169_18 : xT.1 169 18 = some (.iaload, ((0, 0), ([], []))) := (kT_169 18).trans rfl
theorem r_169_19 : xT.1 169 19 = some (.if_icmp .ge 16, ((35, 0), ([], []))) := (kT_169 19).trans rfl
theorem r_169_22 : xT.1 169 22 = some (.aload_n 0, ((0, 0), ([], []))) := (kT_169 22).trans rfl
theorem r_169_23 : xT.1 169 23 = some (.getfield 7, ((9, 0), ([], []))) := (kT_169 23).trans rfl
theorem r_169_26 : xT.1 169 26 = some (.iload_n 1, ((0, 0), ([], []))) := (kT_169 26).trans rfl
theorem r_169_27 : xT.1 169 27 = some (.iconst 1, ((0, 0), ([.int 1], []))) := (kT_169 27).trans rfl
theorem r_169_28 : xT.1 169 28 = some (.iadd, ((0, 0), ([], []))) := (kT_169 28).trans rfl
theorem r_169_29 : xT.1 169 29 = some (.iaload, ((0, 0), ([], []))) := (kT_169 29).trans rfl
theorem r_169_30 : xT.1 169 30 = some (.iload_n 3, ((0, 0), ([], []))) := (kT_169 30).trans rfl
theorem r_169_31 : xT.1 169 31 = some (.isub, ((0, 0), ([], []))) := (kT_169 31).trans rfl
theorem r_169_32 : xT.1 169 32 = some (.goto 29, ((61, 0), ([], []))) := (kT_169 32).trans rfl
theorem r_169_35 : xT.1 169 35 = some (.iload_n 3, ((0, 0), ([], []))) := (kT_169 35).trans rfl
theorem r_169_36 : xT.1 169 36 = some (.aload_n 0, ((0, 0), ([], []))) := (kT_169 36).trans rfl
theorem r_169_37 : xT.1 169 37 = some (.getfield 7, ((9, 0), ([], []))) := (kT_169 37).trans rfl
theorem r_169_40 : xT.1 169 40 = some (.iload_n 1, ((0, 0), ([], []))) := (kT_169 40).trans rfl
theorem r_169_41 : xT.1 169 41 = some (.iconst 2, ((0, 0), ([.int 2], []))) := (kT_169 41).trans rfl
theorem r_169_42 : xT.1 169 42 = some (.iadd, ((0, 0), ([], []))) := (kT_169 42).trans rfl
theorem r_169_43 : xT.1 169 43 = some (.iaload, ((0, 0), ([], []))) := (kT_169 43).trans rfl
theorem r_169_44 : xT.1 169 44 = some (.if_icmp .le 16, ((60, 0), ([], []))) := (kT_169 44).trans rfl
theorem r_169_47 : xT.1 169 47 = some (.iload_n 3, ((0, 0), ([], []))) := (kT_169 47).trans rfl
theorem r_169_48 : xT.1 169 48 = some (.aload_n 0, ((0, 0), ([], []))) := (kT_169 48).trans rfl
theorem r_169_49 : xT.1 169 49 = some (.getfield 7, ((9, 0), ([], []))) := (kT_169 49).trans rfl
theorem r_169_52 : xT.1 169 52 = some (.iload_n 1, ((0, 0), ([], []))) := (kT_169 52).trans rfl
theorem r_169_53 : xT.1 169 53 = some (.iconst 2, ((0, 0), ([.int 2], []))) := (kT_169 53).trans rfl
theorem r_169_54 : xT.1 169 54 = some (.iadd, ((0, 0), ([], []))) := (kT_169 54).trans rfl
theorem r_169_55 : xT.1 169 55 = some (.iaload, ((0, 0), ([], []))) := (kT_169 55).trans rfl
theorem r_169_56 : xT.1 169 56 = some (.isub, ((0, 0), ([], []))) := (kT_169 56).trans rfl
theorem r_169_57 : xT.1 169 57 = some (.goto 4, ((61, 0), ([], []))) := (kT_169 57).trans rfl
theorem r_169_60 : xT.1 169 60 = some (.iconst 0, ((0, 0), ([.int 0], []))) := (kT_169 60).trans rfl
theorem r_169_61 : xT.1 169 61 = some (.istore 5, ((0, 0), ([], []))) := (kT_169 61).trans rfl
theorem r_169_63 : xT.1 169 63 = some (.bipush 9, ((0, 0), ([.int 9], []))) := (kT_169 63).trans rfl
theorem r_169_65 : xT.1 169 65 = some (.iload 4, ((0, 0), ([], []))) := (kT_169 65).trans rfl
theorem r_169_67 : xT.1 169 67 = some (.imul, ((0, 0), ([], []))) := (kT_169 67).trans rfl
theorem r_169_68 : xT.1 169 68 = some (.aload_n 0, ((0, 0), ([], []))) := (kT_169 68).trans rfl
theorem r_169_69 : xT.1 169 69 = some (.getfield 7, ((9, 0), ([], []))) := (kT_169 69).trans rfl
theorem r_169_72 : xT.1 169 72 = some (.iload_n 1, ((0, 0), ([], []))) := (kT_169 72).trans rfl
theorem r_169_73 : xT.1 169 73 = some (.iconst 3, ((0, 0), ([.int 3], []))) := (kT_169 73).trans rfl
theorem r_169_74 : xT.1 169 74 = some (.iadd, ((0, 0), ([], []))) := (kT_169 74).trans rfl
theorem r_169_75 : xT.1 169 75 = some (.iaload, ((0, 0), ([], []))) := (kT_169 75).trans rfl
theorem r_169_76 : xT.1 169 76 = some (.iadd, ((0, 0), ([], []))) := (kT_169 76).trans rfl
theorem r_169_77 : xT.1 169 77 = some (.iconst 1, ((0, 0), ([.int 1], []))) := (kT_169 77).trans rfl
theorem r_169_78 : xT.1 169 78 = some (.isub, ((0, 0), ([], []))) := (kT_169 78).trans rfl
theorem r_169_79 : xT.1 169 79 = some (.istore 6, ((0, 0), ([], []))) := (kT_169 79).trans rfl
theorem r_169_81 : xT.1 169 81 = some (.aload_n 0, ((0, 0), ([], []))) := (kT_169 81).trans rfl
theorem r_169_82 : xT.1 169 82 = some (.getfield 7, ((9, 0), ([], []))) := (kT_169 82).trans rfl
theorem r_169_85 : xT.1 169 85 = some (.bipush 20, ((0, 0), ([.int 20], []))) := (kT_169 85).trans rfl
theorem r_169_87 : xT.1 169 87 = some (.iload 4, ((0, 0), ([], []))) := (kT_169 87).trans rfl
theorem r_169_89 : xT.1 169 89 = some (.iadd, ((0, 0), ([], []))) := (kT_169 89).trans rfl
theorem r_169_90 : xT.1 169 90 = some (.dup2, ((0, 0), ([], []))) := (kT_169 90).trans rfl
theorem r_169_91 : xT.1 169 91 = some (.iaload, ((0, 0), ([], []))) := (kT_169 91).trans rfl
theorem r_169_92 : xT.1 169 92 = some (.iload_n 2, ((0, 0), ([], []))) := (kT_169 92).trans rfl
theorem r_169_93 : xT.1 169 93 = some (.aload_n 0, ((0, 0), ([], []))) := (kT_169 93).trans rfl
theorem r_169_94 : xT.1 169 94 = some (.getfield 7, ((9, 0), ([], []))) := (kT_169 94).trans rfl
theorem r_169_97 : xT.1 169 97 = some (.iload_n 1, ((0, 0), ([], []))) := (kT_169 97).trans rfl
theorem r_169_98 : xT.1 169 98 = some (.iconst 2, ((0, 0), ([.int 2], []))) := (kT_169 98).trans rfl
theorem r_169_99 : xT.1 169 99 = some (.iadd, ((0, 0), ([], []))) := (kT_169 99).trans rfl
theorem r_169_100 : xT.1 169 100 = some (.iaload, ((0, 0), ([], []))) := (kT_169 100).trans rfl
theorem r_169_101 : xT.1 169 101 = some (.aload_n 0, ((0, 0), ([], []))) := (kT_169 101).trans rfl
theorem r_169_102 : xT.1 169 102 = some (.getfield 7, ((9, 0), ([], []))) := (kT_169 102).trans rfl
theorem r_169_105 : xT.1 169 105 = some (.iload_n 1, ((0, 0), ([], []))) := (kT_169 105).trans rfl
theorem r_169_106 : xT.1 169 106 = some (.iconst 1, ((0, 0), ([.int 1], []))) := (kT_169 106).trans rfl
theorem r_169_107 : xT.1 169 107 = some (.iadd, ((0, 0), ([], []))) := (kT_169 107).trans rfl
theorem r_169_108 : xT.1 169 108 = some (.iaload, ((0, 0), ([], []))) := (kT_169 108).trans rfl
theorem r_169_109 : xT.1 169 109 = some (.isub, ((0, 0), ([], []))) := (kT_169 109).trans rfl
theorem r_169_110 : xT.1 169 110 = some (.bipush 20, ((0, 0), ([.int 20], []))) := (kT_169 110).trans rfl
theorem r_169_112 : xT.1 169 112 = some (.iload 5, ((0, 0), ([], []))) := (kT_169 112).trans rfl
theorem r_169_114 : xT.1 169 114 = some (.imul, ((0, 0), ([], []))) := (kT_169 114).trans rfl
theorem r_169_115 : xT.1 169 115 = some (.bipush 10, ((0, 0), ([.int 10], []))) := (kT_169 115).trans rfl
theorem r_169_117 : xT.1 169 117 = some (.aload_n 0, ((0, 0), ([], []))) := (kT_169 117).trans rfl
theorem r_169_118 : xT.1 169 118 = some (.getfield 7, ((9, 0), ([], []))) := (kT_169 118).trans rfl
theorem r_169_121 : xT.1 169 121 = some (.iload_n 1, ((0, 0), ([], []))) := (kT_169 121).trans rfl
theorem r_169_122 : xT.1 169 122 = some (.iconst 3, ((0, 0), ([.int 3], []))) := (kT_169 122).trans rfl
theorem r_169_123 : xT.1 169 123 = some (.iadd, ((0, 0), ([], []))) := (kT_169 123).trans rfl
theorem r_169_124 : xT.1 169 124 = some (.iaload, ((0, 0), ([], []))) := (kT_169 124).trans rfl
theorem r_169_125 : xT.1 169 125 = some (.isub, ((0, 0), ([], []))) := (kT_169 125).trans rfl
theorem r_169_126 : xT.1 169 126 = some (.idiv, ((0, 0), ([], []))) := (kT_169 126).trans rfl
theorem r_169_127 : xT.1 169 127 = some (.iadd, ((0, 0), ([], []))) := (kT_169 127).trans rfl
theorem r_169_128 : xT.1 169 128 = some (.imul, ((0, 0), ([], []))) := (kT_169 128).trans rfl
theorem r_169_129 : xT.1 169 129 = some (.iadd, ((0, 0), ([], []))) := (kT_169 129).trans rfl
theorem r_169_130 : xT.1 169 130 = some (.iastore, ((0, 0), ([], []))) := (kT_169 130).trans rfl
theorem r_169_131 : xT.1 169 131 = some (.aload_n 0, ((0, 0), ([], []))) := (kT_169 131).trans rfl
theorem r_169_132 : xT.1 169 132 = some (.getfield 7, ((9, 0), ([], []))) := (kT_169 132).trans rfl
theorem r_169_135 : xT.1 169 135 = some (.bipush 30, ((0, 0), ([.int 30], []))) := (kT_169 135).trans rfl
theorem r_169_137 : xT.1 169 137 = some (.iload 6, ((0, 0), ([], []))) := (kT_169 137).trans rfl
theorem r_169_139 : xT.1 169 139 = some (.iadd, ((0, 0), ([], []))) := (kT_169 139).trans rfl
theorem r_169_140 : xT.1 169 140 = some (.dup2, ((0, 0), ([], []))) := (kT_169 140).trans rfl
theorem r_169_141 : xT.1 169 141 = some (.iaload, ((0, 0), ([], []))) := (kT_169 141).trans rfl
theorem r_169_142 : xT.1 169 142 = some (.iconst 1, ((0, 0), ([.int 1], []))) := (kT_169 142).trans rfl
theorem r_169_143 : xT.1 169 143 = some (.iadd, ((0, 0), ([], []))) := (kT_169 143).trans rfl
theorem r_169_144 : xT.1 169 144 = some (.iastore, ((0, 0), ([], []))) := (kT_169 144).trans rfl
theorem r_169_145 : xT.1 169 145 = some (.iload 5, ((0, 0), ([], []))) := (kT_169 145).trans rfl
theorem r_169_147 : xT.1 169 147 = some (.ifCond .le 22, ((169, 0), ([], []))) := (kT_169 147).trans rfl
theorem r_169_150 : xT.1 169 150 = some (.aload_n 0, ((0, 0), ([], []))) := (kT_169 150).trans rfl
theorem r_169_151 : xT.1 169 151 = some (.getfield 7, ((9, 0), ([], []))) := (kT_169 151).trans rfl
theorem r_169_154 : xT.1 169 154 = some (.iconst 3, ((0, 0), ([.int 3], []))) := (kT_169 154).trans rfl
theorem r_169_155 : xT.1 169 155 = some (.dup2, ((0, 0), ([], []))) := (kT_169 155).trans rfl
theorem r_169_156 : xT.1 169 156 = some (.iaload, ((0, 0), ([], []))) := (kT_169 156).trans rfl
theorem r_169_157 : xT.1 169 157 = some (.aload_n 0, ((0, 0), ([], []))) := (kT_169 157).trans rfl
theorem r_169_158 : xT.1 169 158 = some (.getfield 7, ((9, 0), ([], []))) := (kT_169 158).trans rfl
theorem r_169_161 : xT.1 169 161 = some (.iload_n 1, ((0, 0), ([], []))) := (kT_169 161).trans rfl
theorem r_169_162 : xT.1 169 162 = some (.iconst 4, ((0, 0), ([.int 4], []))) := (kT_169 162).trans rfl
theorem r_169_163 : xT.1 169 163 = some (.iadd, ((0, 0), ([], []))) := (kT_169 163).trans rfl
theorem r_169_164 : xT.1 169 164 = some (.iaload, ((0, 0), ([], []))) := (kT_169 164).trans rfl
theorem r_169_165 : xT.1 169 165 = some (.iadd, ((0, 0), ([], []))) := (kT_169 165).trans rfl
theorem r_169_166 : xT.1 169 166 = some (.iastore, ((0, 0), ([], []))) := (kT_169 166).trans rfl
theorem r_169_167 : xT.1 169 167 = some (.iconst 0, ((0, 0), ([.int 0], []))) := (kT_169 167).trans rfl
theorem r_169_168 : xT.1 169 168 = some (.ireturn, ((0, 0), ([], []))) := (kT_169 168).trans rfl
theorem r_169_169 : xT.1 169 169 = some (.aload_n 0, ((0, 0), ([], []))) := (kT_169 169).trans rfl
theorem r_169_170 : xT.1 169 170 = some (.getfield 7, ((9, 0), ([], []))) := (kT_169 170).trans rfl
theorem r_169_173 : xT.1 169 173 = some (.bipush 75, ((0, 0), ([.int 75], []))) := (kT_169 173).trans rfl
theorem r_169_175 : xT.1 169 175 = some (.iload 6, ((0, 0), ([], []))) := (kT_169 175).trans rfl
theorem r_169_177 : xT.1 169 177 = some (.iadd, ((0, 0), ([], []))) := (kT_169 177).trans rfl
theorem r_169_178 : xT.1 169 178 = some (.dup2, ((0, 0), ([], []))) := (kT_169 178).trans rfl
theorem r_169_179 : xT.1 169 179 = some (.iaload, ((0, 0), ([], []))) := (kT_169 179).trans rfl
theorem r_169_180 : xT.1 169 180 = some (.iconst 1, ((0, 0), ([.int 1], []))) := (kT_169 180).trans rfl
theorem r_169_181 : xT.1 169 181 = some (.iadd, ((0, 0), ([], []))) := (kT_169 181).trans rfl
theorem r_169_182 : xT.1 169 182 = some (.iastore, ((0, 0), ([], []))) := (kT_169 182).trans rfl
theorem r_169_183 : xT.1 169 183 = some (.aload_n 0, ((0, 0), ([], []))) := (kT_169 183).trans rfl
theorem r_169_184 : xT.1 169 184 = some (.getfield 7, ((9, 0), ([], []))) := (kT_169 184).trans rfl
theorem r_169_187 : xT.1 169 187 = some (.bipush 10, ((0, 0), ([.int 10], []))) := (kT_169 187).trans rfl
theorem r_169_189 : xT.1 169 189 = some (.iload 4, ((0, 0), ([], []))) := (kT_169 189).trans rfl
theorem r_169_191 : xT.1 169 191 = some (.iadd, ((0, 0), ([], []))) := (kT_169 191).trans rfl
theorem r_169_192 : xT.1 169 192 = some (.dup2, ((0, 0), ([], []))) := (kT_169 192).trans rfl
theorem r_169_193 : xT.1 169 193 = some (.iaload, ((0, 0), ([], []))) := (kT_169 193).trans rfl
theorem r_169_194 : xT.1 169 194 = some (.aload_n 0, ((0, 0), ([], []))) := (kT_169 194).trans rfl
theorem r_169_195 : xT.1 169 195 = some (.getfield 7, ((9, 0), ([], []))) := (kT_169 195).trans rfl
theorem r_169_198 : xT.1 169 198 = some (.iload_n 1, ((0, 0), ([], []))) := (kT_169 198).trans rfl
theorem r_169_199 : xT.1 169 199 = some (.iconst 4, ((0, 0), ([.int 4], []))) := (kT_169 199).trans rfl
theorem r_169_200 : xT.1 169 200 = some (.iadd, ((0, 0), ([], []))) := (kT_169 200).trans rfl
theorem r_169_201 : xT.1 169 201 = some (.iaload, ((0, 0), ([], []))) := (kT_169 201).trans rfl
theorem r_169_202 : xT.1 169 202 = some (.aload_n 0, ((0, 0), ([], []))) := (kT_169 202).trans rfl
theorem r_169_203 : xT.1 169 203 = some (.iload_n 1, ((0, 0), ([], []))) := (kT_169 203).trans rfl
theorem r_169_204 : xT.1 169 204 = some (.invokevirtual 98, ((168, 2), ([], [0]))) := (kT_169 204).trans rfl
theorem r_169_207 : xT.1 169 207 = some (.iadd, ((0, 0), ([], []))) := (kT_169 207).trans rfl
theorem r_169_208 : xT.1 169 208 = some (.iadd, ((0, 0), ([], []))) := (kT_169 208).trans rfl
theorem r_169_209 : xT.1 169 209 = some (.iastore, ((0, 0), ([], []))) := (kT_169 209).trans rfl
theorem r_169_210 : xT.1 169 210 = some (.aload_n 0, ((0, 0), ([], []))) := (kT_169 210).trans rfl
theorem r_169_211 : xT.1 169 211 = some (.getfield 7, ((9, 0), ([], []))) := (kT_169 211).trans rfl
theorem r_169_214 : xT.1 169 214 = some (.iconst 3, ((0, 0), ([.int 3], []))) := (kT_169 214).trans rfl
theorem r_169_215 : xT.1 169 215 = some (.dup2, ((0, 0), ([], []))) := (kT_169 215).trans rfl
theorem r_169_216 : xT.1 169 216 = some (.iaload, ((0, 0), ([], []))) := (kT_169 216).trans rfl
theorem r_169_217 : xT.1 169 217 = some (.aload_n 0, ((0, 0), ([], []))) := (kT_169 217).trans rfl
theorem r_169_218 : xT.1 169 218 = some (.iload_n 1, ((0, 0), ([], []))) := (kT_169 218).trans rfl
theorem r_169_219 : xT.1 169 219 = some (.invokevirtual 98, ((168, 2), ([], [0]))) := (kT_169 219).trans rfl
theorem r_169_222 : xT.1 169 222 = some (.isub, ((0, 0), ([], []))) := (kT_169 222).trans rfl
theorem r_169_223 : xT.1 169 223 = some (.iastore, ((0, 0), ([], []))) := (kT_169 223).trans rfl
theorem r_169_224 : xT.1 169 224 = some (.iconst 1, ((0, 0), ([.int 1], []))) := (kT_169 224).trans rfl
theorem r_169_225 : xT.1 169 225 = some (.ireturn, ((0, 0), ([], []))) := (kT_169 225).trans rfl
theorem kT_170 (pc : Nat) : xT.1 170 pc = xfind k_170 pc := rfl
theorem r_170_0 : xT.1 170 0 = some (.aload_n 0, ((0, 0), ([], []))) := (kT_170 0).trans rfl
theorem r_170_1 : xT.1 170 1 = some (.getfield 7, ((9, 0), ([], []))) := (kT_170 1).trans rfl
theorem r_170_4 : xT.1 170 4 = some (.bipush 120, ((0, 0), ([.int 120], []))) := (kT_170 4).trans rfl
theorem r_170_6 : xT.1 170 6 = some (.iload_n 2, ((0, 0), ([], []))) := (kT_170 6).trans rfl
theorem r_170_7 : xT.1 170 7 = some (.iadd, ((0, 0), ([], []))) := (kT_170 7).trans rfl
theorem r_170_8 : xT.1 170 8 = some (.aload_n 0, ((0, 0), ([], []))) := (kT_170 8).trans rfl
theorem r_170_9 : xT.1 170 9 = some (.getfield 7, ((9, 0), ([], []))) := (kT_170 9).trans rfl
theorem r_170_12 : xT.1 170 12 = some (.bipush 120, ((0, 0), ([.int 120], []))) := (kT_170 12).trans rfl
theorem r_170_14 : xT.1 170 14 = some (.iload_n 1, ((0, 0), ([], []))) := (kT_170 14).trans rfl
theorem r_170_15 : xT.1 170 15 = some (.iadd, ((0, 0), ([], []))) := (kT_170 15).trans rfl
theorem r_170_16 : xT.1 170 16 = some (.iaload, ((0, 0), ([], []))) := (kT_170 16).trans rfl
theorem r_170_17 : xT.1 170 17 = some (.iastore, ((0, 0), ([], []))) := (kT_170 17).trans rfl
theorem r_170_18 : xT.1 170 18 = some (.aload_n 0, ((0, 0), ([], []))) := (kT_170 18).trans rfl
theorem r_170_19 : xT.1 170 19 = some (.getfield 7, ((9, 0), ([], []))) := (kT_170 19).trans rfl
theorem r_170_22 : xT.1 170 22 = some (.bipush 126, ((0, 0), ([.int 126], []))) := (kT_170 22).trans rfl
theorem r_170_24 : xT.1 170 24 = some (.iload_n 2, ((0, 0), ([], []))) := (kT_170 24).trans rfl
theorem r_170_25 : xT.1 170 25 = some (.iadd, ((0, 0), ([], []))) := (kT_170 25).trans rfl
theorem r_170_26 : xT.1 170 26 = some (.aload_n 0, ((0, 0), ([], []))) := (kT_170 26).trans rfl
theorem r_170_27 : xT.1 170 27 = some (.getfield 7, ((9, 0), ([], []))) := (kT_170 27).trans rfl
theorem r_170_30 : xT.1 170 30 = some (.bipush 126, ((0, 0), ([.int 126], []))) := (kT_170 30).trans rfl
theorem r_170_32 : xT.1 170 32 = some (.iload_n 1, ((0, 0), ([], []))) := (kT_170 32).trans rfl
theorem r_170_33 : xT.1 170 33 = some (.iadd, ((0, 0), ([], []))) := (kT_170 33).trans rfl
theorem r_170_34 : xT.1 170 34 = some (.iaload, ((0, 0), ([], []))) := (kT_170 34).trans rfl
theorem r_170_35 : xT.1 170 35 = some (.iastore, ((0, 0), ([], []))) := (kT_170 35).trans rfl
theorem r_170_36 : xT.1 170 36 = some (.aload_n 0, ((0, 0), ([], []))) := (kT_170 36).trans rfl
theorem r_170_37 : xT.1 170 37 = some (.getfield 7, ((9, 0), ([], []))) := (kT_170 37).trans rfl
theorem r_170_40 : xT.1 170 40 = some (.sipush 132, ((0, 0), ([.int 132], []))) := (kT_170 40).trans rfl
theorem r_170_43 : xT.1 170 43 = some (.iload_n 2, ((0, 0), ([], []))) := (kT_170 43).trans rfl
theorem r_170_44 : xT.1 170 44 = some (.iadd, ((0, 0), ([], []))) := (kT_170 44).trans rfl
theorem r_170_45 : xT.1 170 45 = some (.aload_n 0, ((0, 0), ([], []))) := (kT_170 45).trans rfl
theorem r_170_46 : xT.1 170 46 = some (.getfield 7, ((9, 0), ([], []))) := (kT_170 46).trans rfl
theorem r_170_49 : xT.1 170 49 = some (.sipush 132, ((0, 0), ([.int 132], []))) := (kT_170 49).trans rfl
theorem r_170_52 : xT.1 170 52 = some (.iload_n 1, ((0, 0), ([], []))) := (kT_170 52).trans rfl
theorem r_170_53 : xT.1 170 53 = some (.iadd, ((0, 0), ([], []))) := (kT_170 53).trans rfl
theorem r_170_54 : xT.1 170 54 = some (.iaload, ((0, 0), ([], []))) := (kT_170 54).trans rfl
theorem r_170_55 : xT.1 170 55 = some (.iastore, ((0, 0), ([], []))) := (kT_170 55).trans rfl
theorem r_170_56 : xT.1 170 56 = some (.iconst 0, ((0, 0), ([.int 0], []))) := (kT_170 56).trans rfl
theorem r_170_57 : xT.1 170 57 = some (.istore_n 3, ((0, 0), ([], []))) := (kT_170 57).trans rfl
theorem r_170_58 : xT.1 170 58 = some (.iload_n 3, ((0, 0), ([], []))) := (kT_170 58).trans rfl
theorem r_170_59 : xT.1 170 59 = some (.bipush 25, ((0, 0), ([.int 25], []))) := (kT_170 59).trans rfl
theorem r_170_61 : xT.1 170 61 = some (.if_icmp .ge 33, ((94, 0), ([], []))) := (kT_170 61).trans rfl
theorem r_170_64 : xT.1 170 64 = some (.aload_n 0, ((0, 0), ([], []))) := (kT_170 64).trans rfl
theorem r_170_65 : xT.1 170 65 = some (.getfield 7, ((9, 0), ([], []))) := (kT_170 65).trans rfl
theorem r_170_68 : xT.1 170 68 = some (.iload_n 2, ((0, 0), ([], []))) := (kT_170 68).trans rfl
theorem r_170_69 : xT.1 170 69 = some (.iconst 0, ((0, 0), ([.int 0], []))) := (kT_170 69).trans rfl
theorem r_170_70 : xT.1 170 70 = some (.invokestatic 56, ((159, 2), ([], [1]))) := (kT_170 70).trans rfl
theorem r_170_73 : xT.1 170 73 = some (.iload_n 3, ((0, 0), ([], []))) := (kT_170 73).trans rfl
theorem r_170_74 : xT.1 170 74 = some (.iadd, ((0, 0), ([], []))) := (kT_170 74).trans rfl
theorem r_170_75 : xT.1 170 75 = some (.aload_n 0, ((0, 0), ([], []))) := (kT_170 75).trans rfl
theorem r_170_76 : xT.1 170 76 = some (.getfield 7, ((9, 0), ([], []))) := (kT_170 76).trans rfl
theorem r_170_79 : xT.1 170 79 = some (.iload_n 1, ((0, 0), ([], []))) := (kT_170 79).trans rfl
theorem r_170_80 : xT.1 170 80 = some (.iconst 0, ((0, 0), ([.int 0], []))) := (kT_170 80).trans rfl
theorem r_170_81 : xT.1 170 81 = some (.invokestatic 56, ((159, 2), ([], [1]))) := (kT_170 81).trans rfl
theorem r_170_84 : xT.1 170 84 = some (.iload_n 3, ((0, 0), ([], []))) := (kT_170 84).trans rfl
theorem r_170_85 : xT.1 170 85 = some (.iadd, ((0, 0), ([], []))) := (kT_170 85).trans rfl
theorem r_170_86 : xT.1 170 86 = some (.iaload, ((0, 0), ([], []))) := (kT_170 86).trans rfl
theorem r_170_87 : xT.1 170 87 = some (.iastore, ((0, 0), ([], []))) := (kT_170 87).trans rfl
theorem r_170_88 : xT.1 170 88 = some (.iinc 3 1, ((0, 0), ([.int (1)], []))) := (kT_170 88).trans rfl
theorem r_170_91 : xT.1 170 91 = some (.goto (-33), ((58, 0), ([], []))) := (kT_170 91).trans rfl
theorem r_170_94 : xT.1 170 94 = some (.return_, ((0, 0), ([], []))) := (kT_170 94).trans rfl
theorem kT_171 (pc : Nat) : xT.1 171 pc = xfind k_171 pc := rfl
theorem r_171_0 : xT.1 171 0 = some (.iconst 1, ((0, 0), ([.int 1], []))) := (kT_171 0).trans rfl
theorem r_171_1 : xT.1 171 1 = some (.istore_n 1, ((0, 0), ([], []))) := (kT_171 1).trans rfl
theorem r_171_2 : xT.1 171 2 = some (.iload_n 1, ((0, 0), ([], []))) := (kT_171 2).trans rfl
theorem r_171_3 : xT.1 171 3 = some (.aload_n 0, ((0, 0), ([], []))) := (kT_171 3).trans rfl
theorem r_171_4 : xT.1 171 4 = some (.getfield 7, ((9, 0), ([], []))) := (kT_171 4).trans rfl
theorem r_171_7 : xT.1 171 7 = some (.iconst 1, ((0, 0), ([.int 1], []))) := (kT_171 7).trans rfl
theorem r_171_8 : xT.1 171 8 = some (.iaload, ((0, 0), ([], []))) := (kT_171 8).trans rfl
theorem r_171_9 : xT.1 171 9 = some (.if_icmp .ge 17, ((26, 0), ([], []))) := (kT_171 9).trans rfl
theorem r_171_12 : xT.1 171 12 = some (.aload_n 0, ((0, 0), ([], []))) := (kT_171 12).trans rfl
theorem r_171_13 : xT.1 171 13 = some (.iload_n 1, ((0, 0), ([], []))) := (kT_171 13).trans rfl
theorem r_171_14 : xT.1 171 14 = some (.iload_n 1, ((0, 0), ([], []))) := (kT_171 14).trans rfl
theorem r_171_15 : xT.1 171 15 = some (.iconst 1, ((0, 0), ([.int 1], []))) := (kT_171 15).trans rfl
theorem r_171_16 : xT.1 171 16 = some (.isub, ((0, 0), ([], []))) := (kT_171 16).trans rfl
theorem r_171_17 : xT.1 171 17 = some (.invokevirtual 101, ((170, 3), ([], [0]))) := (kT_171 17).trans rfl
theorem r_171_20 : xT.1 171 20 = some (.iinc 1 1, ((0, 0), ([.int (1)], []))) := (kT_171 20).trans rfl
theorem r_171_23 : xT.1 171 23 = some (.goto (-21), ((2, 0), ([], []))) := (kT_171 23).trans rfl
theorem r_171_26 : xT.1 171 26 = some (.aload_n 0, ((0, 0), ([], []))) := (kT_171 26).trans rfl
theorem r_171_27 : xT.1 171 27 = some (.getfield 7, ((9, 0), ([], []))) := (kT_171 27).trans rfl
theorem r_171_30 : xT.1 171 30 = some (.iconst 1, ((0, 0), ([.int 1], []))) := (kT_171 30).trans rfl
theorem r_171_31 : xT.1 171 31 = some (.dup2, ((0, 0), ([], []))) := (kT_171 31).trans rfl
theorem r_171_32 : xT.1 171 32 = some (.iaload, ((0, 0), ([], []))) := (kT_171 32).trans rfl
theorem r_171_33 : xT.1 171 33 = some (.iconst 1, ((0, 0), ([.int 1], []))) := (kT_171 33).trans rfl
theorem r_171_34 : xT.1 171 34 = some (.isub, ((0, 0), ([], []))) := (kT_171 34).trans rfl
theorem r_171_35 : xT.1 171 35 = some (.iastore, ((0, 0), ([], []))) := (kT_171 35).trans rfl
theorem r_171_36 : xT.1 171 36 = some (.return_, ((0, 0), ([], []))) := (kT_171 36).trans rfl
