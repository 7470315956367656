/-! the rows of the tables, one by one -/
theorem kT_286 (pc : Nat) : xT.1 286 pc = xfind k_286 pc := rfl
set_option maxRecDepth 100000 in
theorem r_286_0 : xT.1 286 0 = some (.aload_n 0, ((0, 0), ([], []))) := (kT_286 0).trans rfl
set_option maxRecDepth 100000 in
theorem r_286_1 : xT.1 286 1 = some (.invokestatic 133, ((162, 1), ([], [1]))) := (kT_286 1).trans rfl
set_option maxRecDepth 100000 in
theorem r_286_4 : xT.1 286 4 = some (.astore_n 1, ((0, 0), ([], []))) := (kT_286 4).trans rfl
set_option maxRecDepth 100000 in
theorem r_286_5 : xT.1 286 5 = some (.aload_n 0, ((0, 0), ([], []))) := (kT_286 5).trans rfl
set_option maxRecDepth 100000 in
theorem r_286_6 : xT.1 286 6 = some (.invokestatic 133, ((162, 1), ([], [1]))) := (kT_286 6).trans rfl
set_option maxRecDepth 100000 in
theorem r_286_9 : xT.1 286 9 = some (.astore_n 2, ((0, 0), ([], []))) := (kT_286 9).trans rfl
set_option maxRecDepth 100000 in
theorem r_286_10 : xT.1 286 10 = some (.aload_n 1, ((0, 0), ([], []))) := (kT_286 10).trans rfl
set_option maxRecDepth 100000 in
theorem r_286_11 : xT.1 286 11 = some (.invokevirtual 137, ((133, 1), ([], [0]))) := (kT_286 11).trans rfl
set_option maxRecDepth 100000 in
theorem r_286_14 : xT.1 286 14 = some (.istore_n 3, ((0, 0), ([], []))) := (kT_286 14).trans rfl
set_option maxRecDepth 100000 in
theorem r_286_15 : xT.1 286 15 = some (.aload_n 1, ((0, 0), ([], []))) := (kT_286 15).trans rfl
set_option maxRecDepth 100000 in
theorem r_286_16 : xT.1 286 16 = some (.invokestatic 140, ((165, 1), ([], [1]))) := (kT_286 16).trans rfl
set_option maxRecDepth 100000 in
theorem r_286_19 : xT.1 286 19 = some (.istore 4, ((0, 0), ([], []))) := (kT_286 19).trans rfl
set_option maxRecDepth 100000 in
theorem r_286_21 : xT.1 286 21 = some (.aload_n 1, ((0, 0), ([], []))) := (kT_286 21).trans rfl
set_option maxRecDepth 100000 in
theorem r_286_22 : xT.1 286 22 = some (.ldc 144, ((0, 0), ([.ref 32], []))) := (kT_286 22).trans rfl
set_option maxRecDepth 100000 in
theorem r_286_24 : xT.1 286 24 = some (.invokestatic 146, ((161, 2), ([], [1]))) := (kT_286 24).trans rfl
set_option maxRecDepth 100000 in
theorem r_286_27 : xT.1 286 27 = some (.iload_n 3, ((0, 0), ([], []))) := (kT_286 27).trans rfl
set_option maxRecDepth 100000 in
theorem r_286_28 : xT.1 286 28 = some (.iconst 1, ((0, 0), ([.int 1], []))) := (kT_286 28).trans rfl
set_option maxRecDepth 100000 in
theorem r_286_29 : xT.1 286 29 = some (.if_icmp .le 105, ((134, 0), ([], []))) := (kT_286 29).trans rfl
set_option maxRecDepth 100000 in
theorem r_286_32 : xT.1 286 32 = some (.aload_n 1, ((0, 0), ([], []))) := (kT_286 32).trans rfl
set_option maxRecDepth 100000 in
theorem r_286_33 : xT.1 286 33 = some (.invokevirtual 150, ((126, 1), ([], [0]))) := (kT_286 33).trans rfl
set_option maxRecDepth 100000 in
theorem r_286_36 : xT.1 286 36 = some (.iconst 3, ((0, 0), ([.int 3], []))) := (kT_286 36).trans rfl
set_option maxRecDepth 100000 in
theorem r_286_37 : xT.1 286 37 = some (.if_icmp .ne 39, ((76, 0), ([], []))) := (kT_286 37).trans rfl
set_option maxRecDepth 100000 in
theorem r_286_40 : xT.1 286 40 = some (.aload_n 2, ((0, 0), ([], []))) := (kT_286 40).trans rfl
set_option maxRecDepth 100000 in
theorem r_286_41 : xT.1 286 41 = some (.invokevirtual 54, ((88, 1), ([], [0]))) := (kT_286 41).trans rfl
set_option maxRecDepth 100000 in
theorem r_286_44 : xT.1 286 44 = some (.ifCond .lt 32, ((76, 0), ([], []))) := (kT_286 44).trans rfl
set_option maxRecDepth 100000 in
theorem r_286_47 : xT.1 286 47 = some (.aload_n 2, ((0, 0), ([], []))) := (kT_286 47).trans rfl
set_option maxRecDepth 100000 in
theorem r_286_48 : xT.1 286 48 = some (.bipush 120, ((0, 0), ([.int 120], []))) := (kT_286 48).trans rfl
set_option maxRecDepth 100000 in
theorem r_286_50 : xT.1 286 50 = some (.invokevirtual 51, ((87, 2), ([], [0]))) := (kT_286 50).trans rfl
set_option maxRecDepth 100000 in
theorem r_286_53 : xT.1 286 53 = some (.ifCond .lt 23, ((76, 0), ([], []))) := (kT_286 53).trans rfl
set_option maxRecDepth 100000 in
theorem r_286_56 : xT.1 286 56 = some (.aload_n 2, ((0, 0), ([], []))) := (kT_286 56).trans rfl
set_option maxRecDepth 100000 in
theorem r_286_57 : xT.1 286 57 = some (.bipush 7, ((0, 0), ([.int 7], []))) := (kT_286 57).trans rfl
set_option maxRecDepth 100000 in
theorem r_286_59 : xT.1 286 59 = some (.invokevirtual 51, ((87, 2), ([], [0]))) := (kT_286 59).trans rfl
set_option maxRecDepth 100000 in
theorem r_286_62 : xT.1 286 62 = some (.ifCond .lt 14, ((76, 0), ([], []))) := (kT_286 62).trans rfl
set_option maxRecDepth 100000 in
theorem r_286_65 : xT.1 286 65 = some (.aload_n 1, ((0, 0), ([], []))) := (kT_286 65).trans rfl
set_option maxRecDepth 100000 in
theorem r_286_66 : xT.1 286 66 = some (.invokestatic 140, ((165, 1), ([], [1]))) := (kT_286 66).trans rfl
set_option maxRecDepth 100000 in
theorem r_286_69 : xT.1 286 69 = some (.aload_n 2, ((0, 0), ([], []))) := (kT_286 69).trans rfl
set_option maxRecDepth 100000 in
theorem r_286_70 : xT.1 286 70 = some (.invokestatic 140, ((165, 1), ([], [1]))) := (kT_286 70).trans rfl
set_option maxRecDepth 100000 in
theorem r_286_73 : xT.1 286 73 = some (.if_icmp .eq 5, ((78, 0), ([], []))) := (kT_286 73).trans rfl
set_option maxRecDepth 100000 in
theorem r_286_76 : xT.1 286 76 = some (.iconst 0, ((0, 0), ([.int 0], []))) := (kT_286 76).trans rfl
set_option maxRecDepth 100000 in
theorem r_286_77 : xT.1 286 77 = some (.ireturn, ((0, 0), ([], []))) := (kT_286 77).trans rfl
set_option maxRecDepth 100000 in
theorem r_286_78 : xT.1 286 78 = some (.aload_n 1, ((0, 0), ([], []))) := (kT_286 78).trans rfl
set_option maxRecDepth 100000 in
theorem r_286_79 : xT.1 286 79 = some (.invokevirtual 153, ((131, 1), ([], [0]))) := (kT_286 79).trans rfl
set_option maxRecDepth 100000 in
theorem r_286_82 : xT.1 286 82 = some (.iconst 1, ((0, 0), ([.int 1], []))) := (kT_286 82).trans rfl
set_option maxRecDepth 100000 in
theorem r_286_83 : xT.1 286 83 = some (.if_icmp .lt 49, ((132, 0), ([], []))) := (kT_286 83).trans rfl
set_option maxRecDepth 100000 in
theorem r_286_86 : xT.1 286 86 = some (.aload_n 1, ((0, 0), ([], []))) := (kT_286 86).trans rfl
set_option maxRecDepth 100000 in
theorem r_286_87 : xT.1 286 87 = some (.invokevirtual 156, ((132, 1), ([], [0]))) := (kT_286 87).trans rfl
set_option maxRecDepth 100000 in
theorem r_286_90 : xT.1 286 90 = some (.ifCond .lt 42, ((132, 0), ([], []))) := (kT_286 90).trans rfl
set_option maxRecDepth 100000 in
theorem r_286_93 : xT.1 286 93 = some (.aload_n 1, ((0, 0), ([], []))) := (kT_286 93).trans rfl
set_option maxRecDepth 100000 in
theorem r_286_94 : xT.1 286 94 = some (.invokestatic 140, ((165, 1), ([], [1]))) := (kT_286 94).trans rfl
set_option maxRecDepth 100000 in
theorem r_286_97 : xT.1 286 97 = some (.iload 4, ((0, 0), ([], []))) := (kT_286 97).trans rfl
set_option maxRecDepth 100000 in
theorem r_286_99 : xT.1 286 99 = some (.if_icmp .ne 33, ((132, 0), ([], []))) := (kT_286 99).trans rfl
set_option maxRecDepth 100000 in
theorem r_286_102 : xT.1 286 102 = some (.aload_n 2, ((0, 0), ([], []))) := (kT_286 102).trans rfl
set_option maxRecDepth 100000 in
theorem r_286_103 : xT.1 286 103 = some (.invokevirtual 156, ((132, 1), ([], [0]))) := (kT_286 103).trans rfl
set_option maxRecDepth 100000 in
theorem r_286_106 : xT.1 286 106 = some (.ifCond .lt 26, ((132, 0), ([], []))) := (kT_286 106).trans rfl
set_option maxRecDepth 100000 in
theorem r_286_109 : xT.1 286 109 = some (.aload_n 2, ((0, 0), ([], []))) := (kT_286 109).trans rfl
set_option maxRecDepth 100000 in
theorem r_286_110 : xT.1 286 110 = some (.invokevirtual 156, ((132, 1), ([], [0]))) := (kT_286 110).trans rfl
set_option maxRecDepth 100000 in
theorem r_286_113 : xT.1 286 113 = some (.ifCond .lt 19, ((132, 0), ([], []))) := (kT_286 113).trans rfl
set_option maxRecDepth 100000 in
theorem r_286_116 : xT.1 286 116 = some (.aload_n 2, ((0, 0), ([], []))) := (kT_286 116).trans rfl
set_option maxRecDepth 100000 in
theorem r_286_117 : xT.1 286 117 = some (.invokevirtual 156, ((132, 1), ([], [0]))) := (kT_286 117).trans rfl
set_option maxRecDepth 100000 in
theorem r_286_120 : xT.1 286 120 = some (.ifCond .lt 12, ((132, 0), ([], []))) := (kT_286 120).trans rfl
set_option maxRecDepth 100000 in
theorem r_286_123 : xT.1 286 123 = some (.aload_n 2, ((0, 0), ([], []))) := (kT_286 123).trans rfl
set_option maxRecDepth 100000 in
theorem r_286_124 : xT.1 286 124 = some (.invokestatic 140, ((165, 1), ([], [1]))) := (kT_286 124).trans rfl
set_option maxRecDepth 100000 in
theorem r_286_127 : xT.1 286 127 = some (.iload 4, ((0, 0), ([], []))) := (kT_286 127).trans rfl
set_option maxRecDepth 100000 in
theorem r_286_129 : xT.1 286 129 = some (.if_icmp .eq 41, ((170, 0), ([], []))) := (kT_286 129).trans rfl
set_option maxRecDepth 100000 in
theorem r_286_132 : xT.1 286 132 = some (.iconst 0, ((0, 0), ([.int 0], []))) := (kT_286 132).trans rfl
set_option maxRecDepth 100000 in
theorem r_286_133 : xT.1 286 133 = some (.ireturn, ((0, 0), ([], []))) := (kT_286 133).trans rfl
set_option maxRecDepth 100000 in
theorem r_286_134 : xT.1 286 134 = some (.aload_n 1, ((0, 0), ([], []))) := (kT_286 134).trans rfl
set_option maxRecDepth 100000 in
theorem r_286_135 : xT.1 286 135 = some (.invokestatic 159, ((168, 1), ([], [3]))) := (kT_286 135).trans rfl
set_option maxRecDepth 100000 in
theorem r_286_138 : xT.1 286 138 = some (.bipush (-2), ((0, 0), ([.int (-2)], []))) := (kT_286 138).trans rfl
set_option maxRecDepth 100000 in
theorem r_286_140 : xT.1 286 140 = some (.if_icmp .ne 28, ((168, 0), ([], []))) := (kT_286 140).trans rfl
set_option maxRecDepth 100000 in
theorem r_286_143 : xT.1 286 143 = some (.aload_n 1, ((0, 0), ([], []))) := (kT_286 143).trans rfl
set_option maxRecDepth 100000 in
theorem r_286_144 : xT.1 286 144 = some (.invokevirtual 162, ((128, 1), ([], [0]))) := (kT_286 144).trans rfl
set_option maxRecDepth 100000 in
theorem r_286_147 : xT.1 286 147 = some (.iload_n 3, ((0, 0), ([], []))) := (kT_286 147).trans rfl
set_option maxRecDepth 100000 in
theorem r_286_148 : xT.1 286 148 = some (.ifCond .ne 7, ((155, 0), ([], []))) := (kT_286 148).trans rfl
set_option maxRecDepth 100000 in
theorem r_286_151 : xT.1 286 151 = some (.iconst 0, ((0, 0), ([.int 0], []))) := (kT_286 151).trans rfl
set_option maxRecDepth 100000 in
theorem r_286_152 : xT.1 286 152 = some (.goto 4, ((156, 0), ([], []))) := (kT_286 152).trans rfl
set_option maxRecDepth 100000 in
theorem r_286_155 : xT.1 286 155 = some (.iconst 2, ((0, 0), ([.int 2], []))) := (kT_286 155).trans rfl
set_option maxRecDepth 100000 in
theorem r_286_156 : xT.1 286 156 = some (.if_icmp .ne 12, ((168, 0), ([], []))) := (kT_286 156).trans rfl
set_option maxRecDepth 100000 in
theorem r_286_159 : xT.1 286 159 = some (.aload_n 1, ((0, 0), ([], []))) := (kT_286 159).trans rfl
set_option maxRecDepth 100000 in
theorem r_286_160 : xT.1 286 160 = some (.invokestatic 140, ((165, 1), ([], [1]))) := (kT_286 160).trans rfl
set_option maxRecDepth 100000 in
theorem r_286_163 : xT.1 286 163 = some (.iload 4, ((0, 0), ([], []))) := (kT_286 163).trans rfl
set_option maxRecDepth 100000 in
theorem r_286_165 : xT.1 286 165 = some (.if_icmp .eq 5, ((170, 0), ([], []))) := (kT_286 165).trans rfl
set_option maxRecDepth 100000 in
theorem r_286_168 : xT.1 286 168 = some (.iconst 0, ((0, 0), ([.int 0], []))) := (kT_286 168).trans rfl
set_option maxRecDepth 100000 in
theorem r_286_169 : xT.1 286 169 = some (.ireturn, ((0, 0), ([], []))) := (kT_286 169).trans rfl
set_option maxRecDepth 100000 in
theorem r_286_170 : xT.1 286 170 = some (.aload_n 1, ((0, 0), ([], []))) := (kT_286 170).trans rfl
set_option maxRecDepth 100000 in
theorem r_286_171 : xT.1 286 171 = some (.ldc 165, ((0, 0), ([.ref 33], []))) := (kT_286 171).trans rfl
set_option maxRecDepth 100000 in
theorem r_286_173 : xT.1 286 173 = some (.invokestatic 146, ((161, 2), ([], [1]))) := (kT_286 173).trans rfl
set_option maxRecDepth 100000 in
theorem r_286_176 : xT.1 286 176 = some (.aload_n 1, ((0, 0), ([], []))) := (kT_286 176).trans rfl
set_option maxRecDepth 100000 in
theorem r_286_177 : xT.1 286 177 = some (.invokestatic 159, ((168, 1), ([], [3]))) := (kT_286 177).trans rfl
set_option maxRecDepth 100000 in
theorem r_286_180 : xT.1 286 180 = some (.bipush (-2), ((0, 0), ([.int (-2)], []))) := (kT_286 180).trans rfl
set_option maxRecDepth 100000 in
theorem r_286_182 : xT.1 286 182 = some (.if_icmp .ne 19, ((201, 0), ([], []))) := (kT_286 182).trans rfl
set_option maxRecDepth 100000 in
theorem r_286_185 : xT.1 286 185 = some (.aload_n 1, ((0, 0), ([], []))) := (kT_286 185).trans rfl
set_option maxRecDepth 100000 in
theorem r_286_186 : xT.1 286 186 = some (.invokevirtual 162, ((128, 1), ([], [0]))) := (kT_286 186).trans rfl
set_option maxRecDepth 100000 in
theorem r_286_189 : xT.1 286 189 = some (.ifCond .ne 12, ((201, 0), ([], []))) := (kT_286 189).trans rfl
set_option maxRecDepth 100000 in
theorem r_286_192 : xT.1 286 192 = some (.aload_n 1, ((0, 0), ([], []))) := (kT_286 192).trans rfl
set_option maxRecDepth 100000 in
theorem r_286_193 : xT.1 286 193 = some (.invokestatic 140, ((165, 1), ([], [1]))) := (kT_286 193).trans rfl
set_option maxRecDepth 100000 in
theorem r_286_196 : xT.1 286 196 = some (.iload 4, ((0, 0), ([], []))) := (kT_286 196).trans rfl
set_option maxRecDepth 100000 in
theorem r_286_198 : xT.1 286 198 = some (.if_icmp .eq 5, ((203, 0), ([], []))) := (kT_286 198).trans rfl
set_option maxRecDepth 100000 in
theorem r_286_201 : xT.1 286 201 = some (.iconst 0, ((0, 0), ([.int 0], []))) := (kT_286 201).trans rfl
set_option maxRecDepth 100000 in
theorem r_286_202 : xT.1 286 202 = some (.ireturn, ((0, 0), ([], []))) := (kT_286 202).trans rfl
set_option maxRecDepth 100000 in
theorem r_286_203 : xT.1 286 203 = some (.aload_n 1, ((0, 0), ([], []))) := (kT_286 203).trans rfl
set_option maxRecDepth 100000 in
theorem r_286_204 : xT.1 286 204 = some (.ldc 167, ((0, 0), ([.ref 34], []))) := (kT_286 204).trans rfl
set_option maxRecDepth 100000 in
theorem r_286_206 : xT.1 286 206 = some (.invokestatic 146, ((161, 2), ([], [1]))) := (kT_286 206).trans rfl
set_option maxRecDepth 100000 in
theorem r_286_209 : xT.1 286 209 = some (.aload_n 1, ((0, 0), ([], []))) := (kT_286 209).trans rfl
set_option maxRecDepth 100000 in
theorem r_286_210 : xT.1 286 210 = some (.invokestatic 159, ((168, 1), ([], [3]))) := (kT_286 210).trans rfl
set_option maxRecDepth 100000 in
theorem r_286_213 : xT.1 286 213 = some (.bipush (-2), ((0, 0), ([.int (-2)], []))) := (kT_286 213).trans rfl
set_option maxRecDepth 100000 in
theorem r_286_215 : xT.1 286 215 = some (.if_icmp .ne 19, ((234, 0), ([], []))) := (kT_286 215).trans rfl
set_option maxRecDepth 100000 in
theorem r_286_218 : xT.1 286 218 = some (.aload_n 1, ((0, 0), ([], []))) := (kT_286 218).trans rfl
set_option maxRecDepth 100000 in
theorem r_286_219 : xT.1 286 219 = some (.invokevirtual 162, ((128, 1), ([], [0]))) := (kT_286 219).trans rfl
set_option maxRecDepth 100000 in
theorem r_286_222 : xT.1 286 222 = some (.ifCond .ne 12, ((234, 0), ([], []))) := (kT_286 222).trans rfl
set_option maxRecDepth 100000 in
theorem r_286_225 : xT.1 286 225 = some (.aload_n 1, ((0, 0), ([], []))) := (kT_286 225).trans rfl
set_option maxRecDepth 100000 in
theorem r_286_226 : xT.1 286 226 = some (.invokestatic 140, ((165, 1), ([], [1]))) := (kT_286 226).trans rfl
set_option maxRecDepth 100000 in
theorem r_286_229 : xT.1 286 229 = some (.iload 4, ((0, 0), ([], []))) := (kT_286 229).trans rfl
set_option maxRecDepth 100000 in
theorem r_286_231 : xT.1 286 231 = some (.if_icmp .eq 5, ((236, 0), ([], []))) := (kT_286 231).trans rfl
set_option maxRecDepth 100000 in
theorem r_286_234 : xT.1 286 234 = some (.iconst 0, ((0, 0), ([.int 0], []))) := (kT_286 234).trans rfl
set_option maxRecDepth 100000 in
theorem r_286_235 : xT.1 286 235 = some (.ireturn, ((0, 0), ([], []))) := (kT_286 235).trans rfl
set_option maxRecDepth 100000 in
theorem r_286_236 : xT.1 286 236 = some (.aload_n 1, ((0, 0), ([], []))) := (kT_286 236).trans rfl
set_option maxRecDepth 100000 in
theorem r_286_237 : xT.1 286 237 = some (.ldc 169, ((0, 0), ([.ref 35], []))) := (kT_286 237).trans rfl
set_option maxRecDepth 100000 in
theorem r_286_239 : xT.1 286 239 = some (.iconst 1, ((0, 0), ([.int 1], []))) := (kT_286 239).trans rfl
set_option maxRecDepth 100000 in
theorem r_286_240 : xT.1 286 240 = some (.invokestatic 171, ((169, 3), ([], [1]))) := (kT_286 240).trans rfl
set_option maxRecDepth 100000 in
theorem r_286_243 : xT.1 286 243 = some (.ifCond .eq 126, ((369, 0), ([], []))) := (kT_286 243).trans rfl
set_option maxRecDepth 100000 in
theorem r_286_246 : xT.1 286 246 = some (.aload_n 1, ((0, 0), ([], []))) := (kT_286 246).trans rfl
set_option maxRecDepth 100000 in
theorem r_286_247 : xT.1 286 247 = some (.ldc 175, ((0, 0), ([.ref 36], []))) := (kT_286 247).trans rfl
set_option maxRecDepth 100000 in
theorem r_286_249 : xT.1 286 249 = some (.iconst 1, ((0, 0), ([.int 1], []))) := (kT_286 249).trans rfl
set_option maxRecDepth 100000 in
theorem r_286_250 : xT.1 286 250 = some (.invokestatic 171, ((169, 3), ([], [1]))) := (kT_286 250).trans rfl
set_option maxRecDepth 100000 in
theorem r_286_253 : xT.1 286 253 = some (.ifCond .eq 116, ((369, 0), ([], []))) := (kT_286 253).trans rfl
set_option maxRecDepth 100000 in
theorem r_286_256 : xT.1 286 256 = some (.aload_n 1, ((0, 0), ([], []))) := (kT_286 256).trans rfl
set_option maxRecDepth 100000 in
theorem r_286_257 : xT.1 286 257 = some (.ldc 177, ((0, 0), ([.ref 37], []))) := (kT_286 257).trans rfl
set_option maxRecDepth 100000 in
theorem r_286_259 : xT.1 286 259 = some (.bipush 9, ((0, 0), ([.int 9], []))) := (kT_286 259).trans rfl
set_option maxRecDepth 100000 in
theorem r_286_261 : xT.1 286 261 = some (.invokestatic 171, ((169, 3), ([], [1]))) := (kT_286 261).trans rfl
set_option maxRecDepth 100000 in
theorem r_286_264 : xT.1 286 264 = some (.ifCond .eq 105, ((369, 0), ([], []))) := (kT_286 264).trans rfl
set_option maxRecDepth 100000 in
theorem r_286_267 : xT.1 286 267 = some (.aload_n 1, ((0, 0), ([], []))) := (kT_286 267).trans rfl
set_option maxRecDepth 100000 in
theorem r_286_268 : xT.1 286 268 = some (.ldc 179, ((0, 0), ([.ref 38], []))) := (kT_286 268).trans rfl
set_option maxRecDepth 100000 in
theorem r_286_270 : xT.1 286 270 = some (.bipush 8, ((0, 0), ([.int 8], []))) := (kT_286 270).trans rfl
set_option maxRecDepth 100000 in
theorem r_286_272 : xT.1 286 272 = some (.invokestatic 171, ((169, 3), ([], [1]))) := (kT_286 272).trans rfl
set_option maxRecDepth 100000 in
theorem r_286_275 : xT.1 286 275 = some (.ifCond .eq 94, ((369, 0), ([], []))) := (kT_286 275).trans rfl
set_option maxRecDepth 100000 in
theorem r_286_278 : xT.1 286 278 = some (.aload_n 1, ((0, 0), ([], []))) := (kT_286 278).trans rfl
set_option maxRecDepth 100000 in
theorem r_286_279 : xT.1 286 279 = some (.ldc 181, ((0, 0), ([.ref 39], []))) := (kT_286 279).trans rfl
set_option maxRecDepth 100000 in
theorem r_286_281 : xT.1 286 281 = some (.bipush 6, ((0, 0), ([.int 6], []))) := (kT_286 281).trans rfl
set_option maxRecDepth 100000 in
theorem r_286_283 : xT.1 286 283 = some (.invokestatic 171, ((169, 3), ([], [1]))) := (kT_286 283).trans rfl
set_option maxRecDepth 100000 in
theorem r_286_286 : xT.1 286 286 = some (.ifCond .eq 83, ((369, 0), ([], []))) := (kT_286 286).trans rfl
set_option maxRecDepth 100000 in
theorem r_286_289 : xT.1 286 289 = some (.aload_n 1, ((0, 0), ([], []))) := (kT_286 289).trans rfl
set_option maxRecDepth 100000 in
theorem r_286_290 : xT.1 286 290 = some (.ldc 182, ((0, 0), ([.ref 40], []))) := (kT_286 290).trans rfl
set_option maxRecDepth 100000 in
theorem r_286_292 : xT.1 286 292 = some (.bipush 6, ((0, 0), ([.int 6], []))) := (kT_286 292).trans rfl
set_option maxRecDepth 100000 in
theorem r_286_294 : xT.1 286 294 = some (.invokestatic 171, ((169, 3), ([], [1]))) := (kT_286 294).trans rfl
set_option maxRecDepth 100000 in
theorem r_286_297 : xT.1 286 297 = some (.ifCond .eq 72, ((369, 0), ([], []))) := (kT_286 297).trans rfl
set_option maxRecDepth 100000 in
theorem r_286_300 : xT.1 286 300 = some (.aload_n 1, ((0, 0), ([], []))) := (kT_286 300).trans rfl
set_option maxRecDepth 100000 in
theorem r_286_301 : xT.1 286 301 = some (.ldc 184, ((0, 0), ([.ref 41], []))) := (kT_286 301).trans rfl
set_option maxRecDepth 100000 in
theorem r_286_303 : xT.1 286 303 = some (.iconst 0, ((0, 0), ([.int 0], []))) := (kT_286 303).trans rfl
set_option maxRecDepth 100000 in
theorem r_286_304 : xT.1 286 304 = some (.invokestatic 171, ((169, 3), ([], [1]))) := (kT_286 304).trans rfl
set_option maxRecDepth 100000 in
theorem r_286_307 : xT.1 286 307 = some (.ifCond .eq 62, ((369, 0), ([], []))) := (kT_286 307).trans rfl
set_option maxRecDepth 100000 in
theorem r_286_310 : xT.1 286 310 = some (.aload_n 1, ((0, 0), ([], []))) := (kT_286 310).trans rfl
set_option maxRecDepth 100000 in
theorem r_286_311 : xT.1 286 311 = some (.ldc 186, ((0, 0), ([.ref 42], []))) := (kT_286 311).trans rfl
set_option maxRecDepth 100000 in
theorem r_286_313 : xT.1 286 313 = some (.bipush 6, ((0, 0), ([.int 6], []))) := (kT_286 313).trans rfl
set_option maxRecDepth 100000 in
theorem r_286_315 : xT.1 286 315 = some (.invokestatic 171, ((169, 3), ([], [1]))) := (kT_286 315).trans rfl
set_option maxRecDepth 100000 in
theorem r_286_318 : xT.1 286 318 = some (.ifCond .eq 51, ((369, 0), ([], []))) := (kT_286 318).trans rfl
set_option maxRecDepth 100000 in
theorem r_286_321 : xT.1 286 321 = some (.aload_n 1, ((0, 0), ([], []))) := (kT_286 321).trans rfl
set_option maxRecDepth 100000 in
theorem r_286_322 : xT.1 286 322 = some (.ldc 188, ((0, 0), ([.ref 43], []))) := (kT_286 322).trans rfl
set_option maxRecDepth 100000 in
theorem r_286_324 : xT.1 286 324 = some (.bipush 10, ((0, 0), ([.int 10], []))) := (kT_286 324).trans rfl
set_option maxRecDepth 100000 in
theorem r_286_326 : xT.1 286 326 = some (.invokestatic 171, ((169, 3), ([], [1]))) := (kT_286 326).trans rfl
set_option maxRecDepth 100000 in
theorem r_286_329 : xT.1 286 329 = some (.ifCond .eq 40, ((369, 0), ([], []))) := (kT_286 329).trans rfl
set_option maxRecDepth 100000 in
theorem r_286_332 : xT.1 286 332 = some (.aload_n 1, ((0, 0), ([], []))) := (kT_286 332).trans rfl
set_option maxRecDepth 100000 in
theorem r_286_333 : xT.1 286 333 = some (.ldc 190, ((0, 0), ([.ref 44], []))) := (kT_286 333).trans rfl
set_option maxRecDepth 100000 in
theorem r_286_335 : xT.1 286 335 = some (.bipush 16, ((0, 0), ([.int 16], []))) := (kT_286 335).trans rfl
set_option maxRecDepth 100000 in
theorem r_286_337 : xT.1 286 337 = some (.invokestatic 171, ((169, 3), ([], [1]))) := (kT_286 337).trans rfl
set_option maxRecDepth 100000 in
theorem r_286_340 : xT.1 286 340 = some (.ifCond .eq 29, ((369, 0), ([], []))) := (kT_286 340).trans rfl
set_option maxRecDepth 100000 in
theorem r_286_343 : xT.1 286 343 = some (.aload_n 1, ((0, 0), ([], []))) := (kT_286 343).trans rfl
set_option maxRecDepth 100000 in
theorem r_286_344 : xT.1 286 344 = some (.ldc 192, ((0, 0), ([.ref 45], []))) := (kT_286 344).trans rfl
set_option maxRecDepth 100000 in
theorem r_286_346 : xT.1 286 346 = some (.iconst 0, ((0, 0), ([.int 0], []))) := (kT_286 346).trans rfl
set_option maxRecDepth 100000 in
theorem r_286_347 : xT.1 286 347 = some (.invokestatic 171, ((169, 3), ([], [1]))) := (kT_286 347).trans rfl
set_option maxRecDepth 100000 in
theorem r_286_350 : xT.1 286 350 = some (.ifCond .eq 19, ((369, 0), ([], []))) := (kT_286 350).trans rfl
set_option maxRecDepth 100000 in
theorem r_286_353 : xT.1 286 353 = some (.aload_n 1, ((0, 0), ([], []))) := (kT_286 353).trans rfl
set_option maxRecDepth 100000 in
theorem r_286_354 : xT.1 286 354 = some (.invokevirtual 162, ((128, 1), ([], [0]))) := (kT_286 354).trans rfl
set_option maxRecDepth 100000 in
theorem r_286_357 : xT.1 286 357 = some (.ifCond .ne 12, ((369, 0), ([], []))) := (kT_286 357).trans rfl
set_option maxRecDepth 100000 in
theorem r_286_360 : xT.1 286 360 = some (.aload_n 1, ((0, 0), ([], []))) := (kT_286 360).trans rfl
set_option maxRecDepth 100000 in
theorem r_286_361 : xT.1 286 361 = some (.invokestatic 140, ((165, 1), ([], [1]))) := (kT_286 361).trans rfl
set_option maxRecDepth 100000 in
theorem r_286_364 : xT.1 286 364 = some (.iload 4, ((0, 0), ([], []))) := (kT_286 364).trans rfl
set_option maxRecDepth 100000 in
theorem r_286_366 : xT.1 286 366 = some (.if_icmp .eq 5, ((371, 0), ([], []))) := (kT_286 366).trans rfl
set_option maxRecDepth 100000 in
theorem r_286_369 : xT.1 286 369 = some (.iconst 0, ((0, 0), ([.int 0], []))) := (kT_286 369).trans rfl
set_option maxRecDepth 100000 in
theorem r_286_370 : xT.1 286 370 = some (.ireturn, ((0, 0), ([], []))) := (kT_286 370).trans rfl
set_option maxRecDepth 100000 in
theorem r_286_371 : xT.1 286 371 = some (.aload_n 0, ((0, 0), ([], []))) := (kT_286 371).trans rfl
set_option maxRecDepth 100000 in
theorem r_286_372 : xT.1 286 372 = some (.bipush 13, ((0, 0), ([.int 13], []))) := (kT_286 372).trans rfl
set_option maxRecDepth 100000 in
theorem r_286_374 : xT.1 286 374 = some (.invokestatic 24, ((160, 2), ([], [1]))) := (kT_286 374).trans rfl
set_option maxRecDepth 100000 in
theorem r_286_377 : xT.1 286 377 = some (.istore 5, ((0, 0), ([], []))) := (kT_286 377).trans rfl
set_option maxRecDepth 100000 in
theorem r_286_379 : xT.1 286 379 = some (.bipush 100, ((0, 0), ([.int 100], []))) := (kT_286 379).trans rfl
set_option maxRecDepth 100000 in
theorem r_286_381 : xT.1 286 381 = some (.iload 5, ((0, 0), ([], []))) := (kT_286 381).trans rfl
set_option maxRecDepth 100000 in
theorem r_286_383 : xT.1 286 383 = some (.bipush 63, ((0, 0), ([.int 63], []))) := (kT_286 383).trans rfl
set_option maxRecDepth 100000 in
theorem r_286_385 : xT.1 286 385 = some (.iand, ((0, 0), ([], []))) := (kT_286 385).trans rfl
set_option maxRecDepth 100000 in
theorem r_286_386 : xT.1 286 386 = some (.iadd, ((0, 0), ([], []))) := (kT_286 386).trans rfl
set_option maxRecDepth 100000 in
theorem r_286_387 : xT.1 286 387 = some (.istore 6, ((0, 0), ([], []))) := (kT_286 387).trans rfl
set_option maxRecDepth 100000 in
theorem r_286_389 : xT.1 286 389 = some (.new 18, ((8, 9), ([.null, .null, .null, .null, .null, .null, .int 0, .int 0, .int 0], []))) := (kT_286 389).trans rfl
set_option maxRecDepth 100000 in
theorem r_286_392 : xT.1 286 392 = some (.dup, ((0, 0), ([], []))) := (kT_286 392).trans rfl
set_option maxRecDepth 100000 in
theorem r_286_393 : xT.1 286 393 = some (.invokespecial 23, ((83, 1), ([], [2]))) := (kT_286 393).trans rfl
set_option maxRecDepth 100000 in
theorem r_286_396 : xT.1 286 396 = some (.astore 7, ((0, 0), ([], []))) := (kT_286 396).trans rfl
set_option maxRecDepth 100000 in
theorem r_286_398 : xT.1 286 398 = some (.aload 7, ((0, 0), ([], []))) := (kT_286 398).trans rfl
set_option maxRecDepth 100000 in
theorem r_286_400 : xT.1 286 400 = some (.invokevirtual 194, ((124, 1), ([], [0]))) := (kT_286 400).trans rfl
set_option maxRecDepth 100000 in
theorem r_286_403 : xT.1 286 403 = some (.ifCond .eq 70, ((473, 0), ([], []))) := (kT_286 403).trans rfl
set_option maxRecDepth 100000 in
theorem r_286_406 : xT.1 286 406 = some (.aload 7, ((0, 0), ([], []))) := (kT_286 406).trans rfl
set_option maxRecDepth 100000 in
theorem r_286_408 : xT.1 286 408 = some (.invokevirtual 34, ((95, 1), ([], [0]))) := (kT_286 408).trans rfl
set_option maxRecDepth 100000 in
theorem r_286_411 : xT.1 286 411 = some (.ifCond .ne 62, ((473, 0), ([], []))) := (kT_286 411).trans rfl
set_option maxRecDepth 100000 in
theorem r_286_414 : xT.1 286 414 = some (.aload 7, ((0, 0), ([], []))) := (kT_286 414).trans rfl
set_option maxRecDepth 100000 in
theorem r_286_416 : xT.1 286 416 = some (.invokevirtual 74, ((93, 1), ([], [0]))) := (kT_286 416).trans rfl
set_option maxRecDepth 100000 in
theorem r_286_419 : xT.1 286 419 = some (.ifCond .ne 54, ((473, 0), ([], []))) := (kT_286 419).trans rfl
set_option maxRecDepth 100000 in
theorem r_286_422 : xT.1 286 422 = some (.aload 7, ((0, 0), ([], []))) := (kT_286 422).trans rfl
set_option maxRecDepth 100000 in
theorem r_286_424 : xT.1 286 424 = some (.bipush 9, ((0, 0), ([.int 9], []))) := (kT_286 424).trans rfl
set_option maxRecDepth 100000 in
theorem r_286_426 : xT.1 286 426 = some (.invokevirtual 99, ((120, 2), ([], [0]))) := (kT_286 426).trans rfl
set_option maxRecDepth 100000 in
theorem r_286_429 : xT.1 286 429 = some (.ifCond .ne 44, ((473, 0), ([], []))) := (kT_286 429).trans rfl
set_option maxRecDepth 100000 in
theorem r_286_432 : xT.1 286 432 = some (.aload 7, ((0, 0), ([], []))) := (kT_286 432).trans rfl
set_option maxRecDepth 100000 in
theorem r_286_434 : xT.1 286 434 = some (.iconst 2, ((0, 0), ([.int 2], []))) := (kT_286 434).trans rfl
set_option maxRecDepth 100000 in
theorem r_286_435 : xT.1 286 435 = some (.iconst 5, ((0, 0), ([.int 5], []))) := (kT_286 435).trans rfl
set_option maxRecDepth 100000 in
theorem r_286_436 : xT.1 286 436 = some (.invokestatic 30, ((163, 3), ([], [3]))) := (kT_286 436).trans rfl
set_option maxRecDepth 100000 in
theorem r_286_439 : xT.1 286 439 = some (.sipush (-1002), ((0, 0), ([.int (-1002)], []))) := (kT_286 439).trans rfl
set_option maxRecDepth 100000 in
theorem r_286_442 : xT.1 286 442 = some (.if_icmp .ne 31, ((473, 0), ([], []))) := (kT_286 442).trans rfl
set_option maxRecDepth 100000 in
theorem r_286_445 : xT.1 286 445 = some (.aload 7, ((0, 0), ([], []))) := (kT_286 445).trans rfl
set_option maxRecDepth 100000 in
theorem r_286_447 : xT.1 286 447 = some (.iconst 3, ((0, 0), ([.int 3], []))) := (kT_286 447).trans rfl
set_option maxRecDepth 100000 in
theorem r_286_448 : xT.1 286 448 = some (.iconst 0, ((0, 0), ([.int 0], []))) := (kT_286 448).trans rfl
set_option maxRecDepth 100000 in
theorem r_286_449 : xT.1 286 449 = some (.invokestatic 30, ((163, 3), ([], [3]))) := (kT_286 449).trans rfl
set_option maxRecDepth 100000 in
theorem r_286_452 : xT.1 286 452 = some (.sipush (-1002), ((0, 0), ([.int (-1002)], []))) := (kT_286 452).trans rfl
set_option maxRecDepth 100000 in
theorem r_286_455 : xT.1 286 455 = some (.if_icmp .ne 18, ((473, 0), ([], []))) := (kT_286 455).trans rfl
set_option maxRecDepth 100000 in
theorem r_286_458 : xT.1 286 458 = some (.aload 7, ((0, 0), ([], []))) := (kT_286 458).trans rfl
set_option maxRecDepth 100000 in
theorem r_286_460 : xT.1 286 460 = some (.iconst 0, ((0, 0), ([.int 0], []))) := (kT_286 460).trans rfl
set_option maxRecDepth 100000 in
theorem r_286_461 : xT.1 286 461 = some (.iconst 0, ((0, 0), ([.int 0], []))) := (kT_286 461).trans rfl
set_option maxRecDepth 100000 in
theorem r_286_462 : xT.1 286 462 = some (.iconst 1, ((0, 0), ([.int 1], []))) := (kT_286 462).trans rfl
set_option maxRecDepth 100000 in
theorem r_286_463 : xT.1 286 463 = some (.iconst 2, ((0, 0), ([.int 2], []))) := (kT_286 463).trans rfl
set_option maxRecDepth 100000 in
theorem r_286_464 : xT.1 286 464 = some (.iconst 3, ((0, 0), ([.int 3], []))) := (kT_286 464).trans rfl
set_option maxRecDepth 100000 in
theorem r_286_465 : xT.1 286 465 = some (.iconst 4, ((0, 0), ([.int 4], []))) := (kT_286 465).trans rfl
set_option maxRecDepth 100000 in
theorem r_286_466 : xT.1 286 466 = some (.invokestatic 41, ((164, 7), ([], [3]))) := (kT_286 466).trans rfl
set_option maxRecDepth 100000 in
theorem r_286_469 : xT.1 286 469 = some (.iconst (-1), ((0, 0), ([.int (-1)], []))) := (kT_286 469).trans rfl
set_option maxRecDepth 100000 in
theorem r_286_470 : xT.1 286 470 = some (.if_icmp .eq 5, ((475, 0), ([], []))) := (kT_286 470).trans rfl
set_option maxRecDepth 100000 in
theorem r_286_473 : xT.1 286 473 = some (.iconst 0, ((0, 0), ([.int 0], []))) := (kT_286 473).trans rfl
set_option maxRecDepth 100000 in
theorem r_286_474 : xT.1 286 474 = some (.ireturn, ((0, 0), ([], []))) := (kT_286 474).trans rfl
set_option maxRecDepth 100000 in
theorem r_286_475 : xT.1 286 475 = some (.aload 7, ((0, 0), ([], []))) := (kT_286 475).trans rfl
set_option maxRecDepth 100000 in
theorem r_286_477 : xT.1 286 477 = some (.ldc 198, ((0, 0), ([.ref 46], []))) := (kT_286 477).trans rfl
set_option maxRecDepth 100000 in
theorem r_286_479 : xT.1 286 479 = some (.invokestatic 146, ((161, 2), ([], [1]))) := (kT_286 479).trans rfl
set_option maxRecDepth 100000 in
theorem r_286_482 : xT.1 286 482 = some (.aload 7, ((0, 0), ([], []))) := (kT_286 482).trans rfl
set_option maxRecDepth 100000 in
theorem r_286_484 : xT.1 286 484 = some (.invokevirtual 150, ((126, 1), ([], [0]))) := (kT_286 484).trans rfl
set_option maxRecDepth 100000 in
theorem r_286_487 : xT.1 286 487 = some (.iconst 5, ((0, 0), ([.int 5], []))) := (kT_286 487).trans rfl
set_option maxRecDepth 100000 in
theorem r_286_488 : xT.1 286 488 = some (.if_icmp .ne 124, ((612, 0), ([], []))) := (kT_286 488).trans rfl
set_option maxRecDepth 100000 in
theorem r_286_491 : xT.1 286 491 = some (.aload 7, ((0, 0), ([], []))) := (kT_286 491).trans rfl
set_option maxRecDepth 100000 in
theorem r_286_493 : xT.1 286 493 = some (.iconst 0, ((0, 0), ([.int 0], []))) := (kT_286 493).trans rfl
set_option maxRecDepth 100000 in
theorem r_286_494 : xT.1 286 494 = some (.iconst 0, ((0, 0), ([.int 0], []))) := (kT_286 494).trans rfl
set_option maxRecDepth 100000 in
theorem r_286_495 : xT.1 286 495 = some (.iload 6, ((0, 0), ([], []))) := (kT_286 495).trans rfl
set_option maxRecDepth 100000 in
theorem r_286_497 : xT.1 286 497 = some (.iload 6, ((0, 0), ([], []))) := (kT_286 497).trans rfl
set_option maxRecDepth 100000 in
theorem r_286_499 : xT.1 286 499 = some (.bipush 20, ((0, 0), ([.int 20], []))) := (kT_286 499).trans rfl
set_option maxRecDepth 100000 in
theorem r_286_501 : xT.1 286 501 = some (.iadd, ((0, 0), ([], []))) := (kT_286 501).trans rfl
set_option maxRecDepth 100000 in
theorem r_286_502 : xT.1 286 502 = some (.iconst 5, ((0, 0), ([.int 5], []))) := (kT_286 502).trans rfl
set_option maxRecDepth 100000 in
theorem r_286_503 : xT.1 286 503 = some (.bipush 10, ((0, 0), ([.int 10], []))) := (kT_286 503).trans rfl
set_option maxRecDepth 100000 in
theorem r_286_505 : xT.1 286 505 = some (.invokevirtual 68, ((86, 7), ([], [0]))) := (kT_286 505).trans rfl
set_option maxRecDepth 100000 in
theorem r_286_508 : xT.1 286 508 = some (.bipush 90, ((0, 0), ([.int 90], []))) := (kT_286 508).trans rfl
set_option maxRecDepth 100000 in
theorem r_286_510 : xT.1 286 510 = some (.if_icmp .ne 102, ((612, 0), ([], []))) := (kT_286 510).trans rfl
set_option maxRecDepth 100000 in
theorem r_286_513 : xT.1 286 513 = some (.aload 7, ((0, 0), ([], []))) := (kT_286 513).trans rfl
set_option maxRecDepth 100000 in
theorem r_286_515 : xT.1 286 515 = some (.iconst 1, ((0, 0), ([.int 1], []))) := (kT_286 515).trans rfl
set_option maxRecDepth 100000 in
theorem r_286_516 : xT.1 286 516 = some (.iconst 0, ((0, 0), ([.int 0], []))) := (kT_286 516).trans rfl
set_option maxRecDepth 100000 in
theorem r_286_517 : xT.1 286 517 = some (.iload 6, ((0, 0), ([], []))) := (kT_286 517).trans rfl
set_option maxRecDepth 100000 in
theorem r_286_519 : xT.1 286 519 = some (.bipush 10, ((0, 0), ([.int 10], []))) := (kT_286 519).trans rfl
set_option maxRecDepth 100000 in
theorem r_286_521 : xT.1 286 521 = some (.iadd, ((0, 0), ([], []))) := (kT_286 521).trans rfl
set_option maxRecDepth 100000 in
theorem r_286_522 : xT.1 286 522 = some (.iload 6, ((0, 0), ([], []))) := (kT_286 522).trans rfl
set_option maxRecDepth 100000 in
theorem r_286_524 : xT.1 286 524 = some (.bipush 50, ((0, 0), ([.int 50], []))) := (kT_286 524).trans rfl
set_option maxRecDepth 100000 in
theorem r_286_526 : xT.1 286 526 = some (.iadd, ((0, 0), ([], []))) := (kT_286 526).trans rfl
set_option maxRecDepth 100000 in
theorem r_286_527 : xT.1 286 527 = some (.bipush 9, ((0, 0), ([.int 9], []))) := (kT_286 527).trans rfl
set_option maxRecDepth 100000 in
theorem r_286_529 : xT.1 286 529 = some (.bipush 20, ((0, 0), ([.int 20], []))) := (kT_286 529).trans rfl
set_option maxRecDepth 100000 in
theorem r_286_531 : xT.1 286 531 = some (.invokevirtual 68, ((86, 7), ([], [0]))) := (kT_286 531).trans rfl
set_option maxRecDepth 100000 in
theorem r_286_534 : xT.1 286 534 = some (.bipush 80, ((0, 0), ([.int 80], []))) := (kT_286 534).trans rfl
set_option maxRecDepth 100000 in
theorem r_286_536 : xT.1 286 536 = some (.if_icmp .ne 76, ((612, 0), ([], []))) := (kT_286 536).trans rfl
set_option maxRecDepth 100000 in
theorem r_286_539 : xT.1 286 539 = some (.aload 7, ((0, 0), ([], []))) := (kT_286 539).trans rfl
set_option maxRecDepth 100000 in
theorem r_286_541 : xT.1 286 541 = some (.iconst 2, ((0, 0), ([.int 2], []))) := (kT_286 541).trans rfl
set_option maxRecDepth 100000 in
theorem r_286_542 : xT.1 286 542 = some (.iconst 0, ((0, 0), ([.int 0], []))) := (kT_286 542).trans rfl
set_option maxRecDepth 100000 in
theorem r_286_543 : xT.1 286 543 = some (.iload 6, ((0, 0), ([], []))) := (kT_286 543).trans rfl
set_option maxRecDepth 100000 in
theorem r_286_545 : xT.1 286 545 = some (.bipush 40, ((0, 0), ([.int 40], []))) := (kT_286 545).trans rfl
set_option maxRecDepth 100000 in
theorem r_286_547 : xT.1 286 547 = some (.iadd, ((0, 0), ([], []))) := (kT_286 547).trans rfl
set_option maxRecDepth 100000 in
theorem r_286_548 : xT.1 286 548 = some (.iload 6, ((0, 0), ([], []))) := (kT_286 548).trans rfl
set_option maxRecDepth 100000 in
theorem r_286_550 : xT.1 286 550 = some (.bipush 45, ((0, 0), ([.int 45], []))) := (kT_286 550).trans rfl
set_option maxRecDepth 100000 in
theorem r_286_552 : xT.1 286 552 = some (.iadd, ((0, 0), ([], []))) := (kT_286 552).trans rfl
set_option maxRecDepth 100000 in
theorem r_286_553 : xT.1 286 553 = some (.iconst 2, ((0, 0), ([.int 2], []))) := (kT_286 553).trans rfl
set_option maxRecDepth 100000 in
theorem r_286_554 : xT.1 286 554 = some (.bipush 7, ((0, 0), ([.int 7], []))) := (kT_286 554).trans rfl
set_option maxRecDepth 100000 in
theorem r_286_556 : xT.1 286 556 = some (.invokevirtual 68, ((86, 7), ([], [0]))) := (kT_286 556).trans rfl
set_option maxRecDepth 100000 in
theorem r_286_559 : xT.1 286 559 = some (.bipush 93, ((0, 0), ([.int 93], []))) := (kT_286 559).trans rfl
set_option maxRecDepth 100000 in
theorem r_286_561 : xT.1 286 561 = some (.if_icmp .ne 51, ((612, 0), ([], []))) := (kT_286 561).trans rfl
set_option maxRecDepth 100000 in
theorem r_286_564 : xT.1 286 564 = some (.aload 7, ((0, 0), ([], []))) := (kT_286 564).trans rfl
set_option maxRecDepth 100000 in
theorem r_286_566 : xT.1 286 566 = some (.iconst 2, ((0, 0), ([.int 2], []))) := (kT_286 566).trans rfl
set_option maxRecDepth 100000 in
theorem r_286_567 : xT.1 286 567 = some (.iconst 0, ((0, 0), ([.int 0], []))) := (kT_286 567).trans rfl
set_option maxRecDepth 100000 in
theorem r_286_568 : xT.1 286 568 = some (.iconst 1, ((0, 0), ([.int 1], []))) := (kT_286 568).trans rfl
set_option maxRecDepth 100000 in
theorem r_286_569 : xT.1 286 569 = some (.iconst 2, ((0, 0), ([.int 2], []))) := (kT_286 569).trans rfl
set_option maxRecDepth 100000 in
theorem r_286_570 : xT.1 286 570 = some (.iconst 1, ((0, 0), ([.int 1], []))) := (kT_286 570).trans rfl
set_option maxRecDepth 100000 in
theorem r_286_571 : xT.1 286 571 = some (.iconst 1, ((0, 0), ([.int 1], []))) := (kT_286 571).trans rfl
set_option maxRecDepth 100000 in
theorem r_286_572 : xT.1 286 572 = some (.invokestatic 41, ((164, 7), ([], [3]))) := (kT_286 572).trans rfl
set_option maxRecDepth 100000 in
theorem r_286_575 : xT.1 286 575 = some (.bipush (-5), ((0, 0), ([.int (-5)], []))) := (kT_286 575).trans rfl
set_option maxRecDepth 100000 in
theorem r_286_577 : xT.1 286 577 = some (.if_icmp .ne 35, ((612, 0), ([], []))) := (kT_286 577).trans rfl
set_option maxRecDepth 100000 in
theorem r_286_580 : xT.1 286 580 = some (.aload 7, ((0, 0), ([], []))) := (kT_286 580).trans rfl
set_option maxRecDepth 100000 in
theorem r_286_582 : xT.1 286 582 = some (.iconst 0, ((0, 0), ([.int 0], []))) := (kT_286 582).trans rfl
set_option maxRecDepth 100000 in
theorem r_286_583 : xT.1 286 583 = some (.iconst 2, ((0, 0), ([.int 2], []))) := (kT_286 583).trans rfl
set_option maxRecDepth 100000 in
theorem r_286_584 : xT.1 286 584 = some (.iconst 1, ((0, 0), ([.int 1], []))) := (kT_286 584).trans rfl
set_option maxRecDepth 100000 in
theorem r_286_585 : xT.1 286 585 = some (.iconst 2, ((0, 0), ([.int 2], []))) := (kT_286 585).trans rfl
set_option maxRecDepth 100000 in
theorem r_286_586 : xT.1 286 586 = some (.iconst 1, ((0, 0), ([.int 1], []))) := (kT_286 586).trans rfl
set_option maxRecDepth 100000 in
theorem r_286_587 : xT.1 286 587 = some (.iconst 1, ((0, 0), ([.int 1], []))) := (kT_286 587).trans rfl
set_option maxRecDepth 100000 in
theorem r_286_588 : xT.1 286 588 = some (.invokestatic 41, ((164, 7), ([], [3]))) := (kT_286 588).trans rfl
set_option maxRecDepth 100000 in
theorem r_286_591 : xT.1 286 591 = some (.bipush (-2), ((0, 0), ([.int (-2)], []))) := (kT_286 591).trans rfl
set_option maxRecDepth 100000 in
theorem r_286_593 : xT.1 286 593 = some (.if_icmp .ne 19, ((612, 0), ([], []))) := (kT_286 593).trans rfl
set_option maxRecDepth 100000 in
theorem r_286_596 : xT.1 286 596 = some (.aload 7, ((0, 0), ([], []))) := (kT_286 596).trans rfl
set_option maxRecDepth 100000 in
theorem r_286_598 : xT.1 286 598 = some (.iconst 0, ((0, 0), ([.int 0], []))) := (kT_286 598).trans rfl
set_option maxRecDepth 100000 in
theorem r_286_599 : xT.1 286 599 = some (.iconst 1, ((0, 0), ([.int 1], []))) := (kT_286 599).trans rfl
set_option maxRecDepth 100000 in
theorem r_286_600 : xT.1 286 600 = some (.iconst 5, ((0, 0), ([.int 5], []))) := (kT_286 600).trans rfl
set_option maxRecDepth 100000 in
theorem r_286_601 : xT.1 286 601 = some (.iconst 4, ((0, 0), ([.int 4], []))) := (kT_286 601).trans rfl
set_option maxRecDepth 100000 in
theorem r_286_602 : xT.1 286 602 = some (.iconst 1, ((0, 0), ([.int 1], []))) := (kT_286 602).trans rfl
set_option maxRecDepth 100000 in
theorem r_286_603 : xT.1 286 603 = some (.iconst 1, ((0, 0), ([.int 1], []))) := (kT_286 603).trans rfl
set_option maxRecDepth 100000 in
theorem r_286_604 : xT.1 286 604 = some (.invokestatic 41, ((164, 7), ([], [3]))) := (kT_286 604).trans rfl
set_option maxRecDepth 100000 in
theorem r_286_607 : xT.1 286 607 = some (.bipush (-3), ((0, 0), ([.int (-3)], []))) := (kT_286 607).trans rfl
set_option maxRecDepth 100000 in
theorem r_286_609 : xT.1 286 609 = some (.if_icmp .eq 5, ((614, 0), ([], []))) := (kT_286 609).trans rfl
set_option maxRecDepth 100000 in
theorem r_286_612 : xT.1 286 612 = some (.iconst 0, ((0, 0), ([.int 0], []))) := (kT_286 612).trans rfl
set_option maxRecDepth 100000 in
theorem r_286_613 : xT.1 286 613 = some (.ireturn, ((0, 0), ([], []))) := (kT_286 613).trans rfl
set_option maxRecDepth 100000 in
theorem r_286_614 : xT.1 286 614 = some (.aload 7, ((0, 0), ([], []))) := (kT_286 614).trans rfl
set_option maxRecDepth 100000 in
theorem r_286_616 : xT.1 286 616 = some (.invokevirtual 200, ((94, 1), ([], [0]))) := (kT_286 616).trans rfl
set_option maxRecDepth 100000 in
theorem r_286_619 : xT.1 286 619 = some (.bipush 37, ((0, 0), ([.int 37], []))) := (kT_286 619).trans rfl
set_option maxRecDepth 100000 in
theorem r_286_621 : xT.1 286 621 = some (.if_icmp .ne 211, ((832, 0), ([], []))) := (kT_286 621).trans rfl
set_option maxRecDepth 100000 in
theorem r_286_624 : xT.1 286 624 = some (.aload 7, ((0, 0), ([], []))) := (kT_286 624).trans rfl
set_option maxRecDepth 100000 in
theorem r_286_626 : xT.1 286 626 = some (.iconst 0, ((0, 0), ([.int 0], []))) := (kT_286 626).trans rfl
set_option maxRecDepth 100000 in
theorem r_286_627 : xT.1 286 627 = some (.invokevirtual 203, ((108, 2), ([], [0]))) := (kT_286 627).trans rfl
set_option maxRecDepth 100000 in
theorem r_286_630 : xT.1 286 630 = some (.iload 6, ((0, 0), ([], []))) := (kT_286 630).trans rfl
set_option maxRecDepth 100000 in
theorem r_286_632 : xT.1 286 632 = some (.bipush 10, ((0, 0), ([.int 10], []))) := (kT_286 632).trans rfl
set_option maxRecDepth 100000 in
theorem r_286_634 : xT.1 286 634 = some (.iadd, ((0, 0), ([], []))) := (kT_286 634).trans rfl
set_option maxRecDepth 100000 in
theorem r_286_635 : xT.1 286 635 = some (.if_icmp .ne 197, ((832, 0), ([], []))) := (kT_286 635).trans rfl
set_option maxRecDepth 100000 in
theorem r_286_638 : xT.1 286 638 = some (.aload 7, ((0, 0), ([], []))) := (kT_286 638).trans rfl
set_option maxRecDepth 100000 in
theorem r_286_640 : xT.1 286 640 = some (.iconst 0, ((0, 0), ([.int 0], []))) := (kT_286 640).trans rfl
set_option maxRecDepth 100000 in
theorem r_286_641 : xT.1 286 641 = some (.invokevirtual 206, ((109, 2), ([], [0]))) := (kT_286 641).trans rfl
set_option maxRecDepth 100000 in
theorem r_286_644 : xT.1 286 644 = some (.iload 6, ((0, 0), ([], []))) := (kT_286 644).trans rfl
set_option maxRecDepth 100000 in
theorem r_286_646 : xT.1 286 646 = some (.bipush 10, ((0, 0), ([.int 10], []))) := (kT_286 646).trans rfl
set_option maxRecDepth 100000 in
theorem r_286_648 : xT.1 286 648 = some (.iadd, ((0, 0), ([], []))) := (kT_286 648).trans rfl
set_option maxRecDepth 100000 in
theorem r_286_649 : xT.1 286 649 = some (.if_icmp .ne 183, ((832, 0), ([], []))) := (kT_286 649).trans rfl
set_option maxRecDepth 100000 in
theorem r_286_652 : xT.1 286 652 = some (.aload 7, ((0, 0), ([], []))) := (kT_286 652).trans rfl
set_option maxRecDepth 100000 in
theorem r_286_654 : xT.1 286 654 = some (.iconst 0, ((0, 0), ([.int 0], []))) := (kT_286 654).trans rfl
set_option maxRecDepth 100000 in
theorem r_286_655 : xT.1 286 655 = some (.invokevirtual 209, ((110, 2), ([], [0]))) := (kT_286 655).trans rfl
set_option maxRecDepth 100000 in
theorem r_286_658 : xT.1 286 658 = some (.bipush 51, ((0, 0), ([.int 51], []))) := (kT_286 658).trans rfl
set_option maxRecDepth 100000 in
theorem r_286_660 : xT.1 286 660 = some (.if_icmp .ne 172, ((832, 0), ([], []))) := (kT_286 660).trans rfl
set_option maxRecDepth 100000 in
theorem r_286_663 : xT.1 286 663 = some (.aload 7, ((0, 0), ([], []))) := (kT_286 663).trans rfl
set_option maxRecDepth 100000 in
theorem r_286_665 : xT.1 286 665 = some (.iconst 0, ((0, 0), ([.int 0], []))) := (kT_286 665).trans rfl
set_option maxRecDepth 100000 in
theorem r_286_666 : xT.1 286 666 = some (.iload 6, ((0, 0), ([], []))) := (kT_286 666).trans rfl
set_option maxRecDepth 100000 in
theorem r_286_668 : xT.1 286 668 = some (.bipush 20, ((0, 0), ([.int 20], []))) := (kT_286 668).trans rfl
set_option maxRecDepth 100000 in
theorem r_286_670 : xT.1 286 670 = some (.iadd, ((0, 0), ([], []))) := (kT_286 670).trans rfl
set_option maxRecDepth 100000 in
theorem r_286_671 : xT.1 286 671 = some (.invokevirtual 212, ((107, 3), ([], [0]))) := (kT_286 671).trans rfl
set_option maxRecDepth 100000 in
theorem r_286_674 : xT.1 286 674 = some (.iconst 2, ((0, 0), ([.int 2], []))) := (kT_286 674).trans rfl
set_option maxRecDepth 100000 in
theorem r_286_675 : xT.1 286 675 = some (.if_icmp .ne 157, ((832, 0), ([], []))) := (kT_286 675).trans rfl
set_option maxRecDepth 100000 in
theorem r_286_678 : xT.1 286 678 = some (.aload 7, ((0, 0), ([], []))) := (kT_286 678).trans rfl
set_option maxRecDepth 100000 in
theorem r_286_680 : xT.1 286 680 = some (.iconst 0, ((0, 0), ([.int 0], []))) := (kT_286 680).trans rfl
set_option maxRecDepth 100000 in
theorem r_286_681 : xT.1 286 681 = some (.iload 6, ((0, 0), ([], []))) := (kT_286 681).trans rfl
set_option maxRecDepth 100000 in
theorem r_286_683 : xT.1 286 683 = some (.bipush 21, ((0, 0), ([.int 21], []))) := (kT_286 683).trans rfl
set_option maxRecDepth 100000 in
theorem r_286_685 : xT.1 286 685 = some (.iadd, ((0, 0), ([], []))) := (kT_286 685).trans rfl
set_option maxRecDepth 100000 in
theorem r_286_686 : xT.1 286 686 = some (.invokevirtual 212, ((107, 3), ([], [0]))) := (kT_286 686).trans rfl
set_option maxRecDepth 100000 in
theorem r_286_689 : xT.1 286 689 = some (.iconst 1, ((0, 0), ([.int 1], []))) := (kT_286 689).trans rfl
set_option maxRecDepth 100000 in
theorem r_286_690 : xT.1 286 690 = some (.if_icmp .ne 142, ((832, 0), ([], []))) := (kT_286 690).trans rfl
set_option maxRecDepth 100000 in
theorem r_286_693 : xT.1 286 693 = some (.aload 7, ((0, 0), ([], []))) := (kT_286 693).trans rfl
set_option maxRecDepth 100000 in
theorem r_286_695 : xT.1 286 695 = some (.iconst 0, ((0, 0), ([.int 0], []))) := (kT_286 695).trans rfl
set_option maxRecDepth 100000 in
theorem r_286_696 : xT.1 286 696 = some (.iconst 0, ((0, 0), ([.int 0], []))) := (kT_286 696).trans rfl
set_option maxRecDepth 100000 in
theorem r_286_697 : xT.1 286 697 = some (.invokevirtual 215, ((106, 3), ([], [0]))) := (kT_286 697).trans rfl
set_option maxRecDepth 100000 in
theorem r_286_700 : xT.1 286 700 = some (.bipush 10, ((0, 0), ([.int 10], []))) := (kT_286 700).trans rfl
set_option maxRecDepth 100000 in
theorem r_286_702 : xT.1 286 702 = some (.if_icmp .ne 130, ((832, 0), ([], []))) := (kT_286 702).trans rfl
set_option maxRecDepth 100000 in
theorem r_286_705 : xT.1 286 705 = some (.aload 7, ((0, 0), ([], []))) := (kT_286 705).trans rfl
set_option maxRecDepth 100000 in
theorem r_286_707 : xT.1 286 707 = some (.iconst 1, ((0, 0), ([.int 1], []))) := (kT_286 707).trans rfl
set_option maxRecDepth 100000 in
theorem r_286_708 : xT.1 286 708 = some (.iconst 0, ((0, 0), ([.int 0], []))) := (kT_286 708).trans rfl
set_option maxRecDepth 100000 in
theorem r_286_709 : xT.1 286 709 = some (.invokevirtual 215, ((106, 3), ([], [0]))) := (kT_286 709).trans rfl
set_option maxRecDepth 100000 in
theorem r_286_712 : xT.1 286 712 = some (.iconst 2, ((0, 0), ([.int 2], []))) := (kT_286 712).trans rfl
set_option maxRecDepth 100000 in
theorem r_286_713 : xT.1 286 713 = some (.if_icmp .ne 119, ((832, 0), ([], []))) := (kT_286 713).trans rfl
set_option maxRecDepth 100000 in
theorem r_286_716 : xT.1 286 716 = some (.aload 7, ((0, 0), ([], []))) := (kT_286 716).trans rfl
set_option maxRecDepth 100000 in
theorem r_286_718 : xT.1 286 718 = some (.iconst 2, ((0, 0), ([.int 2], []))) := (kT_286 718).trans rfl
set_option maxRecDepth 100000 in
theorem r_286_719 : xT.1 286 719 = some (.iconst 0, ((0, 0), ([.int 0], []))) := (kT_286 719).trans rfl
set_option maxRecDepth 100000 in
theorem r_286_720 : xT.1 286 720 = some (.invokevirtual 215, ((106, 3), ([], [0]))) := (kT_286 720).trans rfl
set_option maxRecDepth 100000 in
theorem r_286_723 : xT.1 286 723 = some (.bipush 28, ((0, 0), ([.int 28], []))) := (kT_286 723).trans rfl
set_option maxRecDepth 100000 in
theorem r_286_725 : xT.1 286 725 = some (.if_icmp .ne 107, ((832, 0), ([], []))) := (kT_286 725).trans rfl
set_option maxRecDepth 100000 in
theorem r_286_728 : xT.1 286 728 = some (.aload 7, ((0, 0), ([], []))) := (kT_286 728).trans rfl
set_option maxRecDepth 100000 in
theorem r_286_730 : xT.1 286 730 = some (.aload 7, ((0, 0), ([], []))) := (kT_286 730).trans rfl
set_option maxRecDepth 100000 in
theorem r_286_732 : xT.1 286 732 = some (.iconst 0, ((0, 0), ([.int 0], []))) := (kT_286 732).trans rfl
set_option maxRecDepth 100000 in
theorem r_286_733 : xT.1 286 733 = some (.invokevirtual 218, ((129, 2), ([], [0]))) := (kT_286 733).trans rfl
set_option maxRecDepth 100000 in
theorem r_286_736 : xT.1 286 736 = some (.new 221, ((10, 4), ([.null, .int 0, .int 0, .int 0], []))) := (kT_286 736).trans rfl
set_option maxRecDepth 100000 in
theorem r_286_739 : xT.1 286 739 = some (.dup, ((0, 0), ([], []))) := (kT_286 739).trans rfl
set_option maxRecDepth 100000 in
theorem r_286_740 : xT.1 286 740 = some (.invokespecial 223, ((292, 1), ([], [2]))) := (kT_286 740).trans rfl
set_option maxRecDepth 100000 in
theorem r_286_743 : xT.1 286 743 = some (.ldc 224, ((0, 0), ([.ref 47], []))) := (kT_286 743).trans rfl
set_option maxRecDepth 100000 in
theorem r_286_745 : xT.1 286 745 = some (.invokevirtual 226, ((317, 2), ([], [0]))) := (kT_286 745).trans rfl
set_option maxRecDepth 100000 in
theorem r_286_748 : xT.1 286 748 = some (.iload 6, ((0, 0), ([], []))) := (kT_286 748).trans rfl
set_option maxRecDepth 100000 in
theorem r_286_750 : xT.1 286 750 = some (.invokevirtual 230, ((294, 2), ([], [0]))) := (kT_286 750).trans rfl
set_option maxRecDepth 100000 in
theorem r_286_753 : xT.1 286 753 = some (.ldc 233, ((0, 0), ([.ref 48], []))) := (kT_286 753).trans rfl
set_option maxRecDepth 100000 in
theorem r_286_755 : xT.1 286 755 = some (.invokevirtual 226, ((317, 2), ([], [0]))) := (kT_286 755).trans rfl
set_option maxRecDepth 100000 in
theorem r_286_758 : xT.1 286 758 = some (.iload 6, ((0, 0), ([], []))) := (kT_286 758).trans rfl
set_option maxRecDepth 100000 in
theorem r_286_760 : xT.1 286 760 = some (.bipush 20, ((0, 0), ([.int 20], []))) := (kT_286 760).trans rfl
set_option maxRecDepth 100000 in
theorem r_286_762 : xT.1 286 762 = some (.iadd, ((0, 0), ([], []))) := (kT_286 762).trans rfl
set_option maxRecDepth 100000 in
theorem r_286_763 : xT.1 286 763 = some (.invokevirtual 230, ((294, 2), ([], [0]))) := (kT_286 763).trans rfl
set_option maxRecDepth 100000 in
theorem r_286_766 : xT.1 286 766 = some (.ldc 235, ((0, 0), ([.ref 49], []))) := (kT_286 766).trans rfl
set_option maxRecDepth 100000 in
theorem r_286_768 : xT.1 286 768 = some (.invokevirtual 226, ((317, 2), ([], [0]))) := (kT_286 768).trans rfl
set_option maxRecDepth 100000 in
theorem r_286_771 : xT.1 286 771 = some (.iload 6, ((0, 0), ([], []))) := (kT_286 771).trans rfl
set_option maxRecDepth 100000 in
theorem r_286_773 : xT.1 286 773 = some (.bipush 10, ((0, 0), ([.int 10], []))) := (kT_286 773).trans rfl
set_option maxRecDepth 100000 in
theorem r_286_775 : xT.1 286 775 = some (.iadd, ((0, 0), ([], []))) := (kT_286 775).trans rfl
set_option maxRecDepth 100000 in
theorem r_286_776 : xT.1 286 776 = some (.invokevirtual 230, ((294, 2), ([], [0]))) := (kT_286 776).trans rfl
set_option maxRecDepth 100000 in
theorem r_286_779 : xT.1 286 779 = some (.ldc 233, ((0, 0), ([.ref 48], []))) := (kT_286 779).trans rfl
set_option maxRecDepth 100000 in
theorem r_286_781 : xT.1 286 781 = some (.invokevirtual 226, ((317, 2), ([], [0]))) := (kT_286 781).trans rfl
set_option maxRecDepth 100000 in
theorem r_286_784 : xT.1 286 784 = some (.iload 6, ((0, 0), ([], []))) := (kT_286 784).trans rfl
set_option maxRecDepth 100000 in
theorem r_286_786 : xT.1 286 786 = some (.bipush 50, ((0, 0), ([.int 50], []))) := (kT_286 786).trans rfl
set_option maxRecDepth 100000 in
theorem r_286_788 : xT.1 286 788 = some (.iadd, ((0, 0), ([], []))) := (kT_286 788).trans rfl
set_option maxRecDepth 100000 in
theorem r_286_789 : xT.1 286 789 = some (.invokevirtual 230, ((294, 2), ([], [0]))) := (kT_286 789).trans rfl
set_option maxRecDepth 100000 in
theorem r_286_792 : xT.1 286 792 = some (.ldc 237, ((0, 0), ([.ref 50], []))) := (kT_286 792).trans rfl
set_option maxRecDepth 100000 in
theorem r_286_794 : xT.1 286 794 = some (.invokevirtual 226, ((317, 2), ([], [0]))) := (kT_286 794).trans rfl
set_option maxRecDepth 100000 in
theorem r_286_797 : xT.1 286 797 = some (.iload 6, ((0, 0), ([], []))) := (kT_286 797).trans rfl
set_option maxRecDepth 100000 in
theorem r_286_799 : xT.1 286 799 = some (.bipush 40, ((0, 0), ([.int 40], []))) := (kT_286 799).trans rfl
set_option maxRecDepth 100000 in
theorem r_286_801 : xT.1 286 801 = some (.iadd, ((0, 0), ([], []))) := (kT_286 801).trans rfl
set_option maxRecDepth 100000 in
theorem r_286_802 : xT.1 286 802 = some (.invokevirtual 230, ((294, 2), ([], [0]))) := (kT_286 802).trans rfl
set_option maxRecDepth 100000 in
theorem r_286_805 : xT.1 286 805 = some (.ldc 233, ((0, 0), ([.ref 48], []))) := (kT_286 805).trans rfl
set_option maxRecDepth 100000 in
theorem r_286_807 : xT.1 286 807 = some (.invokevirtual 226, ((317, 2), ([], [0]))) := (kT_286 807).trans rfl
set_option maxRecDepth 100000 in
theorem r_286_810 : xT.1 286 810 = some (.iload 6, ((0, 0), ([], []))) := (kT_286 810).trans rfl
set_option maxRecDepth 100000 in
theorem r_286_812 : xT.1 286 812 = some (.bipush 45, ((0, 0), ([.int 45], []))) := (kT_286 812).trans rfl
set_option maxRecDepth 100000 in
theorem r_286_814 : xT.1 286 814 = some (.iadd, ((0, 0), ([], []))) := (kT_286 814).trans rfl
set_option maxRecDepth 100000 in
theorem r_286_815 : xT.1 286 815 = some (.invokevirtual 230, ((294, 2), ([], [0]))) := (kT_286 815).trans rfl
set_option maxRecDepth 100000 in
theorem r_286_818 : xT.1 286 818 = some (.ldc 239, ((0, 0), ([.ref 51], []))) := (kT_286 818).trans rfl
set_option maxRecDepth 100000 in
theorem r_286_820 : xT.1 286 820 = some (.invokevirtual 226, ((317, 2), ([], [0]))) := (kT_286 820).trans rfl
set_option maxRecDepth 100000 in
theorem r_286_823 : xT.1 286 823 = some (.invokevirtual 241, ((318, 1), ([], [0]))) := (kT_286 823).trans rfl
set_option maxRecDepth 100000 in
theorem r_286_826 : xT.1 286 826 = some (.invokestatic 245, ((167, 3), ([], [1]))) := (kT_286 826).trans rfl
set_option maxRecDepth 100000 in
theorem r_286_829 : xT.1 286 829 = some (.ifCond .ne 5, ((834, 0), ([], []))) := (kT_286 829).trans rfl
set_option maxRecDepth 100000 in
theorem r_286_832 : xT.1 286 832 = some (.iconst 0, ((0, 0), ([.int 0], []))) := (kT_286 832).trans rfl
set_option maxRecDepth 100000 in
theorem r_286_833 : xT.1 286 833 = some (.ireturn, ((0, 0), ([], []))) := (kT_286 833).trans rfl
set_option maxRecDepth 100000 in
theorem r_286_834 : xT.1 286 834 = some (.aload 7, ((0, 0), ([], []))) := (kT_286 834).trans rfl
set_option maxRecDepth 100000 in
theorem r_286_836 : xT.1 286 836 = some (.invokevirtual 54, ((88, 1), ([], [0]))) := (kT_286 836).trans rfl
set_option maxRecDepth 100000 in
theorem r_286_839 : xT.1 286 839 = some (.iconst 1, ((0, 0), ([.int 1], []))) := (kT_286 839).trans rfl
set_option maxRecDepth 100000 in
theorem r_286_840 : xT.1 286 840 = some (.if_icmp .ne 211, ((1051, 0), ([], []))) := (kT_286 840).trans rfl
set_option maxRecDepth 100000 in
theorem r_286_843 : xT.1 286 843 = some (.aload 7, ((0, 0), ([], []))) := (kT_286 843).trans rfl
set_option maxRecDepth 100000 in
theorem r_286_845 : xT.1 286 845 = some (.iconst 0, ((0, 0), ([.int 0], []))) := (kT_286 845).trans rfl
set_option maxRecDepth 100000 in
theorem r_286_846 : xT.1 286 846 = some (.invokevirtual 249, ((97, 2), ([], [0]))) := (kT_286 846).trans rfl
set_option maxRecDepth 100000 in
theorem r_286_849 : xT.1 286 849 = some (.iconst 1, ((0, 0), ([.int 1], []))) := (kT_286 849).trans rfl
set_option maxRecDepth 100000 in
theorem r_286_850 : xT.1 286 850 = some (.if_icmp .ne 201, ((1051, 0), ([], []))) := (kT_286 850).trans rfl
set_option maxRecDepth 100000 in
theorem r_286_853 : xT.1 286 853 = some (.aload 7, ((0, 0), ([], []))) := (kT_286 853).trans rfl
set_option maxRecDepth 100000 in
theorem r_286_855 : xT.1 286 855 = some (.invokevirtual 54, ((88, 1), ([], [0]))) := (kT_286 855).trans rfl
set_option maxRecDepth 100000 in
theorem r_286_858 : xT.1 286 858 = some (.ifCond .ne 193, ((1051, 0), ([], []))) := (kT_286 858).trans rfl
set_option maxRecDepth 100000 in
theorem r_286_861 : xT.1 286 861 = some (.aload 7, ((0, 0), ([], []))) := (kT_286 861).trans rfl
set_option maxRecDepth 100000 in
theorem r_286_863 : xT.1 286 863 = some (.iload 6, ((0, 0), ([], []))) := (kT_286 863).trans rfl
set_option maxRecDepth 100000 in
theorem r_286_865 : xT.1 286 865 = some (.bipush 42, ((0, 0), ([.int 42], []))) := (kT_286 865).trans rfl
set_option maxRecDepth 100000 in
theorem r_286_867 : xT.1 286 867 = some (.iadd, ((0, 0), ([], []))) := (kT_286 867).trans rfl
set_option maxRecDepth 100000 in
theorem r_286_868 : xT.1 286 868 = some (.invokevirtual 51, ((87, 2), ([], [0]))) := (kT_286 868).trans rfl
set_option maxRecDepth 100000 in
theorem r_286_871 : xT.1 286 871 = some (.iconst 2, ((0, 0), ([.int 2], []))) := (kT_286 871).trans rfl
set_option maxRecDepth 100000 in
theorem r_286_872 : xT.1 286 872 = some (.if_icmp .ne 179, ((1051, 0), ([], []))) := (kT_286 872).trans rfl
set_option maxRecDepth 100000 in
theorem r_286_875 : xT.1 286 875 = some (.aload 7, ((0, 0), ([], []))) := (kT_286 875).trans rfl
set_option maxRecDepth 100000 in
theorem r_286_877 : xT.1 286 877 = some (.iconst 0, ((0, 0), ([.int 0], []))) := (kT_286 877).trans rfl
set_option maxRecDepth 100000 in
theorem r_286_878 : xT.1 286 878 = some (.invokevirtual 83, ((91, 2), ([], [0]))) := (kT_286 878).trans rfl
set_option maxRecDepth 100000 in
theorem r_286_881 : xT.1 286 881 = some (.bipush 90, ((0, 0), ([.int 90], []))) := (kT_286 881).trans rfl
set_option maxRecDepth 100000 in
theorem r_286_883 : xT.1 286 883 = some (.if_icmp .ne 168, ((1051, 0), ([], []))) := (kT_286 883).trans rfl
set_option maxRecDepth 100000 in
theorem r_286_886 : xT.1 286 886 = some (.aload 7, ((0, 0), ([], []))) := (kT_286 886).trans rfl
set_option maxRecDepth 100000 in
theorem r_286_888 : xT.1 286 888 = some (.iconst 1, ((0, 0), ([.int 1], []))) := (kT_286 888).trans rfl
set_option maxRecDepth 100000 in
theorem r_286_889 : xT.1 286 889 = some (.invokevirtual 83, ((91, 2), ([], [0]))) := (kT_286 889).trans rfl
set_option maxRecDepth 100000 in
theorem r_286_892 : xT.1 286 892 = some (.bipush 102, ((0, 0), ([.int 102], []))) := (kT_286 892).trans rfl
set_option maxRecDepth 100000 in
theorem r_286_894 : xT.1 286 894 = some (.if_icmp .ne 157, ((1051, 0), ([], []))) := (kT_286 894).trans rfl
set_option maxRecDepth 100000 in
theorem r_286_897 : xT.1 286 897 = some (.aload 7, ((0, 0), ([], []))) := (kT_286 897).trans rfl
set_option maxRecDepth 100000 in
theorem r_286_899 : xT.1 286 899 = some (.iconst 2, ((0, 0), ([.int 2], []))) := (kT_286 899).trans rfl
set_option maxRecDepth 100000 in
theorem r_286_900 : xT.1 286 900 = some (.invokevirtual 83, ((91, 2), ([], [0]))) := (kT_286 900).trans rfl
set_option maxRecDepth 100000 in
theorem r_286_903 : xT.1 286 903 = some (.sipush 128, ((0, 0), ([.int 128], []))) := (kT_286 903).trans rfl
set_option maxRecDepth 100000 in
theorem r_286_906 : xT.1 286 906 = some (.if_icmp .ne 145, ((1051, 0), ([], []))) := (kT_286 906).trans rfl
set_option maxRecDepth 100000 in
theorem r_286_909 : xT.1 286 909 = some (.aload 7, ((0, 0), ([], []))) := (kT_286 909).trans rfl
set_option maxRecDepth 100000 in
theorem r_286_911 : xT.1 286 911 = some (.invokevirtual 74, ((93, 1), ([], [0]))) := (kT_286 911).trans rfl
set_option maxRecDepth 100000 in
theorem r_286_914 : xT.1 286 914 = some (.bipush (-20), ((0, 0), ([.int (-20)], []))) := (kT_286 914).trans rfl
set_option maxRecDepth 100000 in
theorem r_286_916 : xT.1 286 916 = some (.if_icmp .ne 135, ((1051, 0), ([], []))) := (kT_286 916).trans rfl
set_option maxRecDepth 100000 in
theorem r_286_919 : xT.1 286 919 = some (.aload 7, ((0, 0), ([], []))) := (kT_286 919).trans rfl
set_option maxRecDepth 100000 in
theorem r_286_921 : xT.1 286 921 = some (.iconst 0, ((0, 0), ([.int 0], []))) := (kT_286 921).trans rfl
set_option maxRecDepth 100000 in
theorem r_286_922 : xT.1 286 922 = some (.invokevirtual 90, ((115, 2), ([], [0]))) := (kT_286 922).trans rfl
set_option maxRecDepth 100000 in
theorem r_286_925 : xT.1 286 925 = some (.sipush 216, ((0, 0), ([.int 216], []))) := (kT_286 925).trans rfl
set_option maxRecDepth 100000 in
theorem r_286_928 : xT.1 286 928 = some (.if_icmp .ne 123, ((1051, 0), ([], []))) := (kT_286 928).trans rfl
set_option maxRecDepth 100000 in
theorem r_286_931 : xT.1 286 931 = some (.aload 7, ((0, 0), ([], []))) := (kT_286 931).trans rfl
set_option maxRecDepth 100000 in
theorem r_286_933 : xT.1 286 933 = some (.iconst 1, ((0, 0), ([.int 1], []))) := (kT_286 933).trans rfl
set_option maxRecDepth 100000 in
theorem r_286_934 : xT.1 286 934 = some (.invokevirtual 90, ((115, 2), ([], [0]))) := (kT_286 934).trans rfl
set_option maxRecDepth 100000 in
theorem r_286_937 : xT.1 286 937 = some (.bipush 80, ((0, 0), ([.int 80], []))) := (kT_286 937).trans rfl
set_option maxRecDepth 100000 in
theorem r_286_939 : xT.1 286 939 = some (.if_icmp .ne 112, ((1051, 0), ([], []))) := (kT_286 939).trans rfl
set_option maxRecDepth 100000 in
theorem r_286_942 : xT.1 286 942 = some (.aload 7, ((0, 0), ([], []))) := (kT_286 942).trans rfl
set_option maxRecDepth 100000 in
theorem r_286_944 : xT.1 286 944 = some (.iconst 2, ((0, 0), ([.int 2], []))) := (kT_286 944).trans rfl
set_option maxRecDepth 100000 in
theorem r_286_945 : xT.1 286 945 = some (.invokevirtual 90, ((115, 2), ([], [0]))) := (kT_286 945).trans rfl
set_option maxRecDepth 100000 in
theorem r_286_948 : xT.1 286 948 = some (.bipush 10, ((0, 0), ([.int 10], []))) := (kT_286 948).trans rfl
set_option maxRecDepth 100000 in
theorem r_286_950 : xT.1 286 950 = some (.if_icmp .ne 101, ((1051, 0), ([], []))) := (kT_286 950).trans rfl
set_option maxRecDepth 100000 in
theorem r_286_953 : xT.1 286 953 = some (.aload 7, ((0, 0), ([], []))) := (kT_286 953).trans rfl
set_option maxRecDepth 100000 in
theorem r_286_955 : xT.1 286 955 = some (.iconst 0, ((0, 0), ([.int 0], []))) := (kT_286 955).trans rfl
set_option maxRecDepth 100000 in
theorem r_286_956 : xT.1 286 956 = some (.invokevirtual 252, ((119, 2), ([], [0]))) := (kT_286 956).trans rfl
set_option maxRecDepth 100000 in
theorem r_286_959 : xT.1 286 959 = some (.iconst 2, ((0, 0), ([.int 2], []))) := (kT_286 959).trans rfl
set_option maxRecDepth 100000 in
theorem r_286_960 : xT.1 286 960 = some (.if_icmp .ne 91, ((1051, 0), ([], []))) := (kT_286 960).trans rfl
set_option maxRecDepth 100000 in
theorem r_286_963 : xT.1 286 963 = some (.aload 7, ((0, 0), ([], []))) := (kT_286 963).trans rfl
set_option maxRecDepth 100000 in
theorem r_286_965 : xT.1 286 965 = some (.iconst 2, ((0, 0), ([.int 2], []))) := (kT_286 965).trans rfl
set_option maxRecDepth 100000 in
theorem r_286_966 : xT.1 286 966 = some (.invokevirtual 252, ((119, 2), ([], [0]))) := (kT_286 966).trans rfl
set_option maxRecDepth 100000 in
theorem r_286_969 : xT.1 286 969 = some (.ifCond .ne 82, ((1051, 0), ([], []))) := (kT_286 969).trans rfl
set_option maxRecDepth 100000 in
theorem r_286_972 : xT.1 286 972 = some (.aload 7, ((0, 0), ([], []))) := (kT_286 972).trans rfl
set_option maxRecDepth 100000 in
theorem r_286_974 : xT.1 286 974 = some (.iconst 0, ((0, 0), ([.int 0], []))) := (kT_286 974).trans rfl
set_option maxRecDepth 100000 in
theorem r_286_975 : xT.1 286 975 = some (.invokevirtual 96, ((117, 2), ([], [0]))) := (kT_286 975).trans rfl
set_option maxRecDepth 100000 in
theorem r_286_978 : xT.1 286 978 = some (.iconst 5, ((0, 0), ([.int 5], []))) := (kT_286 978).trans rfl
set_option maxRecDepth 100000 in
theorem r_286_979 : xT.1 286 979 = some (.if_icmp .ne 72, ((1051, 0), ([], []))) := (kT_286 979).trans rfl
set_option maxRecDepth 100000 in
theorem r_286_982 : xT.1 286 982 = some (.aload 7, ((0, 0), ([], []))) := (kT_286 982).trans rfl
set_option maxRecDepth 100000 in
theorem r_286_984 : xT.1 286 984 = some (.iconst 1, ((0, 0), ([.int 1], []))) := (kT_286 984).trans rfl
set_option maxRecDepth 100000 in
theorem r_286_985 : xT.1 286 985 = some (.invokevirtual 96, ((117, 2), ([], [0]))) := (kT_286 985).trans rfl
set_option maxRecDepth 100000 in
theorem r_286_988 : xT.1 286 988 = some (.iconst 1, ((0, 0), ([.int 1], []))) := (kT_286 988).trans rfl
set_option maxRecDepth 100000 in
theorem r_286_989 : xT.1 286 989 = some (.if_icmp .ne 62, ((1051, 0), ([], []))) := (kT_286 989).trans rfl
set_option maxRecDepth 100000 in
theorem r_286_992 : xT.1 286 992 = some (.aload 7, ((0, 0), ([], []))) := (kT_286 992).trans rfl
set_option maxRecDepth 100000 in
theorem r_286_994 : xT.1 286 994 = some (.iconst 2, ((0, 0), ([.int 2], []))) := (kT_286 994).trans rfl
set_option maxRecDepth 100000 in
theorem r_286_995 : xT.1 286 995 = some (.invokevirtual 96, ((117, 2), ([], [0]))) := (kT_286 995).trans rfl
set_option maxRecDepth 100000 in
theorem r_286_998 : xT.1 286 998 = some (.bipush 8, ((0, 0), ([.int 8], []))) := (kT_286 998).trans rfl
set_option maxRecDepth 100000 in
theorem r_286_1000 : xT.1 286 1000 = some (.if_icmp .ne 51, ((1051, 0), ([], []))) := (kT_286 1000).trans rfl
set_option maxRecDepth 100000 in
theorem r_286_1003 : xT.1 286 1003 = some (.aload 7, ((0, 0), ([], []))) := (kT_286 1003).trans rfl
set_option maxRecDepth 100000 in
theorem r_286_1005 : xT.1 286 1005 = some (.invokevirtual 255, ((118, 1), ([], [0]))) := (kT_286 1005).trans rfl
set_option maxRecDepth 100000 in
theorem r_286_1008 : xT.1 286 1008 = some (.iconst 1, ((0, 0), ([.int 1], []))) := (kT_286 1008).trans rfl
set_option maxRecDepth 100000 in
theorem r_286_1009 : xT.1 286 1009 = some (.if_icmp .ne 42, ((1051, 0), ([], []))) := (kT_286 1009).trans rfl
set_option maxRecDepth 100000 in
theorem r_286_1012 : xT.1 286 1012 = some (.aload 7, ((0, 0), ([], []))) := (kT_286 1012).trans rfl
set_option maxRecDepth 100000 in
theorem r_286_1014 : xT.1 286 1014 = some (.bipush 9, ((0, 0), ([.int 9], []))) := (kT_286 1014).trans rfl
set_option maxRecDepth 100000 in
theorem r_286_1016 : xT.1 286 1016 = some (.invokevirtual 258, ((123, 2), ([], [0]))) := (kT_286 1016).trans rfl
set_option maxRecDepth 100000 in
theorem r_286_1019 : xT.1 286 1019 = some (.fconst 1, ((0, 0), ([], []))) := (kT_286 1019).trans rfl
set_option maxRecDepth 100000 in
theorem r_286_1020 : xT.1 286 1020 = some (.fcmp .l, ((0, 0), ([], []))) := (kT_286 1020).trans rfl
set_option maxRecDepth 100000 in
theorem r_286_1021 : xT.1 286 1021 = some (.ifCond .ne 30, ((1051, 0), ([], []))) := (kT_286 1021).trans rfl
set_option maxRecDepth 100000 in
theorem r_286_1024 : xT.1 286 1024 = some (.aload 7, ((0, 0), ([], []))) := (kT_286 1024).trans rfl
set_option maxRecDepth 100000 in
theorem r_286_1026 : xT.1 286 1026 = some (.iconst 2, ((0, 0), ([.int 2], []))) := (kT_286 1026).trans rfl
set_option maxRecDepth 100000 in
theorem r_286_1027 : xT.1 286 1027 = some (.invokevirtual 262, ((116, 2), ([], [0]))) := (kT_286 1027).trans rfl
set_option maxRecDepth 100000 in
theorem r_286_1030 : xT.1 286 1030 = some (.ldc2_w 266, ((0, 0), ([.double 4621819117588971520], []))) := (kT_286 1030).trans rfl
set_option maxRecDepth 100000 in
theorem r_286_1033 : xT.1 286 1033 = some (.dcmp .l, ((0, 0), ([], []))) := (kT_286 1033).trans rfl
set_option maxRecDepth 100000 in
theorem r_286_1034 : xT.1 286 1034 = some (.ifCond .ne 17, ((1051, 0), ([], []))) := (kT_286 1034).trans rfl
set_option maxRecDepth 100000 in
theorem r_286_1037 : xT.1 286 1037 = some (.aload 7, ((0, 0), ([], []))) := (kT_286 1037).trans rfl
set_option maxRecDepth 100000 in
theorem r_286_1039 : xT.1 286 1039 = some (.iconst 0, ((0, 0), ([.int 0], []))) := (kT_286 1039).trans rfl
set_option maxRecDepth 100000 in
theorem r_286_1040 : xT.1 286 1040 = some (.invokevirtual 268, ((112, 2), ([], [0]))) := (kT_286 1040).trans rfl
set_option maxRecDepth 100000 in
theorem r_286_1043 : xT.1 286 1043 = some (.iload 6, ((0, 0), ([], []))) := (kT_286 1043).trans rfl
set_option maxRecDepth 100000 in
theorem r_286_1045 : xT.1 286 1045 = some (.bipush 42, ((0, 0), ([.int 42], []))) := (kT_286 1045).trans rfl
set_option maxRecDepth 100000 in
theorem r_286_1047 : xT.1 286 1047 = some (.iadd, ((0, 0), ([], []))) := (kT_286 1047).trans rfl
set_option maxRecDepth 100000 in
theorem r_286_1048 : xT.1 286 1048 = some (.if_icmp .eq 5, ((1053, 0), ([], []))) := (kT_286 1048).trans rfl
set_option maxRecDepth 100000 in
theorem r_286_1051 : xT.1 286 1051 = some (.iconst 0, ((0, 0), ([.int 0], []))) := (kT_286 1051).trans rfl
set_option maxRecDepth 100000 in
theorem r_286_1052 : xT.1 286 1052 = some (.ireturn, ((0, 0), ([], []))) := (kT_286 1052).trans rfl
set_option maxRecDepth 100000 in
theorem r_286_1053 : xT.1 286 1053 = some (.aload 7, ((0, 0), ([], []))) := (kT_286 1053).trans rfl
set_option maxRecDepth 100000 in
theorem r_286_1055 : xT.1 286 1055 = some (.iconst 2, ((0, 0), ([.int 2], []))) := (kT_286 1055).trans rfl
set_option maxRecDepth 100000 in
theorem r_286_1056 : xT.1 286 1056 = some (.iconst 1, ((0, 0), ([.int 1], []))) := (kT_286 1056).trans rfl
set_option maxRecDepth 100000 in
theorem r_286_1057 : xT.1 286 1057 = some (.iconst 0, ((0, 0), ([.int 0], []))) := (kT_286 1057).trans rfl
set_option maxRecDepth 100000 in
theorem r_286_1058 : xT.1 286 1058 = some (.sipush 999, ((0, 0), ([.int 999], []))) := (kT_286 1058).trans rfl
set_option maxRecDepth 100000 in
theorem r_286_1061 : xT.1 286 1061 = some (.iconst 1, ((0, 0), ([.int 1], []))) := (kT_286 1061).trans rfl
set_option maxRecDepth 100000 in
theorem r_286_1062 : xT.1 286 1062 = some (.bipush 20, ((0, 0), ([.int 20], []))) := (kT_286 1062).trans rfl
set_option maxRecDepth 100000 in
theorem r_286_1064 : xT.1 286 1064 = some (.invokevirtual 68, ((86, 7), ([], [0]))) := (kT_286 1064).trans rfl
set_option maxRecDepth 100000 in
theorem r_286_1067 : xT.1 286 1067 = some (.bipush 108, ((0, 0), ([.int 108], []))) := (kT_286 1067).trans rfl
set_option maxRecDepth 100000 in
theorem r_286_1069 : xT.1 286 1069 = some (.if_icmp .ne 167, ((1236, 0), ([], []))) := (kT_286 1069).trans rfl
set_option maxRecDepth 100000 in
theorem r_286_1072 : xT.1 286 1072 = some (.aload 7, ((0, 0), ([], []))) := (kT_286 1072).trans rfl
set_option maxRecDepth 100000 in
theorem r_286_1074 : xT.1 286 1074 = some (.iconst 0, ((0, 0), ([.int 0], []))) := (kT_286 1074).trans rfl
set_option maxRecDepth 100000 in
theorem r_286_1075 : xT.1 286 1075 = some (.iconst 1, ((0, 0), ([.int 1], []))) := (kT_286 1075).trans rfl
set_option maxRecDepth 100000 in
theorem r_286_1076 : xT.1 286 1076 = some (.iconst 0, ((0, 0), ([.int 0], []))) := (kT_286 1076).trans rfl
set_option maxRecDepth 100000 in
theorem r_286_1077 : xT.1 286 1077 = some (.iconst 0, ((0, 0), ([.int 0], []))) := (kT_286 1077).trans rfl
set_option maxRecDepth 100000 in
theorem r_286_1078 : xT.1 286 1078 = some (.bipush 9, ((0, 0), ([.int 9], []))) := (kT_286 1078).trans rfl
set_option maxRecDepth 100000 in
theorem r_286_1080 : xT.1 286 1080 = some (.iconst 1, ((0, 0), ([.int 1], []))) := (kT_286 1080).trans rfl
set_option maxRecDepth 100000 in
theorem r_286_1081 : xT.1 286 1081 = some (.invokevirtual 68, ((86, 7), ([], [0]))) := (kT_286 1081).trans rfl
set_option maxRecDepth 100000 in
theorem r_286_1084 : xT.1 286 1084 = some (.bipush 89, ((0, 0), ([.int 89], []))) := (kT_286 1084).trans rfl
set_option maxRecDepth 100000 in
theorem r_286_1086 : xT.1 286 1086 = some (.if_icmp .ne 150, ((1236, 0), ([], []))) := (kT_286 1086).trans rfl
set_option maxRecDepth 100000 in
theorem r_286_1089 : xT.1 286 1089 = some (.aload 7, ((0, 0), ([], []))) := (kT_286 1089).trans rfl
set_option maxRecDepth 100000 in
theorem r_286_1091 : xT.1 286 1091 = some (.iconst 2, ((0, 0), ([.int 2], []))) := (kT_286 1091).trans rfl
set_option maxRecDepth 100000 in
theorem r_286_1092 : xT.1 286 1092 = some (.invokevirtual 57, ((89, 2), ([], [0]))) := (kT_286 1092).trans rfl
set_option maxRecDepth 100000 in
theorem r_286_1095 : xT.1 286 1095 = some (.iconst 1, ((0, 0), ([.int 1], []))) := (kT_286 1095).trans rfl
set_option maxRecDepth 100000 in
theorem r_286_1096 : xT.1 286 1096 = some (.if_icmp .ne 140, ((1236, 0), ([], []))) := (kT_286 1096).trans rfl
set_option maxRecDepth 100000 in
theorem r_286_1099 : xT.1 286 1099 = some (.aload 7, ((0, 0), ([], []))) := (kT_286 1099).trans rfl
set_option maxRecDepth 100000 in
theorem r_286_1101 : xT.1 286 1101 = some (.iconst 2, ((0, 0), ([.int 2], []))) := (kT_286 1101).trans rfl
set_option maxRecDepth 100000 in
theorem r_286_1102 : xT.1 286 1102 = some (.invokevirtual 83, ((91, 2), ([], [0]))) := (kT_286 1102).trans rfl
set_option maxRecDepth 100000 in
theorem r_286_1105 : xT.1 286 1105 = some (.sipush 128, ((0, 0), ([.int 128], []))) := (kT_286 1105).trans rfl
set_option maxRecDepth 100000 in
theorem r_286_1108 : xT.1 286 1108 = some (.if_icmp .ne 128, ((1236, 0), ([], []))) := (kT_286 1108).trans rfl
set_option maxRecDepth 100000 in
theorem r_286_1111 : xT.1 286 1111 = some (.aload 7, ((0, 0), ([], []))) := (kT_286 1111).trans rfl
set_option maxRecDepth 100000 in
theorem r_286_1113 : xT.1 286 1113 = some (.iconst 1, ((0, 0), ([.int 1], []))) := (kT_286 1113).trans rfl
set_option maxRecDepth 100000 in
theorem r_286_1114 : xT.1 286 1114 = some (.iconst 0, ((0, 0), ([.int 0], []))) := (kT_286 1114).trans rfl
set_option maxRecDepth 100000 in
theorem r_286_1115 : xT.1 286 1115 = some (.invokevirtual 117, ((100, 3), ([], [0]))) := (kT_286 1115).trans rfl
set_option maxRecDepth 100000 in
theorem r_286_1118 : xT.1 286 1118 = some (.ifCond .ne 118, ((1236, 0), ([], []))) := (kT_286 1118).trans rfl
set_option maxRecDepth 100000 in
theorem r_286_1121 : xT.1 286 1121 = some (.aload 7, ((0, 0), ([], []))) := (kT_286 1121).trans rfl
set_option maxRecDepth 100000 in
theorem r_286_1123 : xT.1 286 1123 = some (.iconst 2, ((0, 0), ([.int 2], []))) := (kT_286 1123).trans rfl
set_option maxRecDepth 100000 in
theorem r_286_1124 : xT.1 286 1124 = some (.iconst 1, ((0, 0), ([.int 1], []))) := (kT_286 1124).trans rfl
set_option maxRecDepth 100000 in
theorem r_286_1125 : xT.1 286 1125 = some (.iconst 0, ((0, 0), ([.int 0], []))) := (kT_286 1125).trans rfl
set_option maxRecDepth 100000 in
theorem r_286_1126 : xT.1 286 1126 = some (.iconst 1, ((0, 0), ([.int 1], []))) := (kT_286 1126).trans rfl
set_option maxRecDepth 100000 in
theorem r_286_1127 : xT.1 286 1127 = some (.iconst 1, ((0, 0), ([.int 1], []))) := (kT_286 1127).trans rfl
set_option maxRecDepth 100000 in
theorem r_286_1128 : xT.1 286 1128 = some (.iconst 1, ((0, 0), ([.int 1], []))) := (kT_286 1128).trans rfl
set_option maxRecDepth 100000 in
theorem r_286_1129 : xT.1 286 1129 = some (.invokestatic 41, ((164, 7), ([], [3]))) := (kT_286 1129).trans rfl
set_option maxRecDepth 100000 in
theorem r_286_1132 : xT.1 286 1132 = some (.bipush (-4), ((0, 0), ([.int (-4)], []))) := (kT_286 1132).trans rfl
set_option maxRecDepth 100000 in
theorem r_286_1134 : xT.1 286 1134 = some (.if_icmp .ne 102, ((1236, 0), ([], []))) := (kT_286 1134).trans rfl
set_option maxRecDepth 100000 in
theorem r_286_1137 : xT.1 286 1137 = some (.aload 7, ((0, 0), ([], []))) := (kT_286 1137).trans rfl
set_option maxRecDepth 100000 in
theorem r_286_1139 : xT.1 286 1139 = some (.iconst 4, ((0, 0), ([.int 4], []))) := (kT_286 1139).trans rfl
set_option maxRecDepth 100000 in
theorem r_286_1140 : xT.1 286 1140 = some (.iconst 2, ((0, 0), ([.int 2], []))) := (kT_286 1140).trans rfl
set_option maxRecDepth 100000 in
theorem r_286_1141 : xT.1 286 1141 = some (.invokestatic 30, ((163, 3), ([], [3]))) := (kT_286 1141).trans rfl
set_option maxRecDepth 100000 in
theorem r_286_1144 : xT.1 286 1144 = some (.sipush (-1001), ((0, 0), ([.int (-1001)], []))) := (kT_286 1144).trans rfl
set_option maxRecDepth 100000 in
theorem r_286_1147 : xT.1 286 1147 = some (.if_icmp .ne 89, ((1236, 0), ([], []))) := (kT_286 1147).trans rfl
set_option maxRecDepth 100000 in
theorem r_286_1150 : xT.1 286 1150 = some (.aload 7, ((0, 0), ([], []))) := (kT_286 1150).trans rfl
set_option maxRecDepth 100000 in
theorem r_286_1152 : xT.1 286 1152 = some (.bipush 7, ((0, 0), ([.int 7], []))) := (kT_286 1152).trans rfl
set_option maxRecDepth 100000 in
theorem r_286_1154 : xT.1 286 1154 = some (.invokevirtual 51, ((87, 2), ([], [0]))) := (kT_286 1154).trans rfl
set_option maxRecDepth 100000 in
theorem r_286_1157 : xT.1 286 1157 = some (.ifCond .ne 79, ((1236, 0), ([], []))) := (kT_286 1157).trans rfl
set_option maxRecDepth 100000 in
theorem r_286_1160 : xT.1 286 1160 = some (.aload 7, ((0, 0), ([], []))) := (kT_286 1160).trans rfl
set_option maxRecDepth 100000 in
theorem r_286_1162 : xT.1 286 1162 = some (.iconst 0, ((0, 0), ([.int 0], []))) := (kT_286 1162).trans rfl
set_option maxRecDepth 100000 in
theorem r_286_1163 : xT.1 286 1163 = some (.invokevirtual 90, ((115, 2), ([], [0]))) := (kT_286 1163).trans rfl
set_option maxRecDepth 100000 in
theorem r_286_1166 : xT.1 286 1166 = some (.sipush 356, ((0, 0), ([.int 356], []))) := (kT_286 1166).trans rfl
set_option maxRecDepth 100000 in
theorem r_286_1169 : xT.1 286 1169 = some (.if_icmp .ne 67, ((1236, 0), ([], []))) := (kT_286 1169).trans rfl
set_option maxRecDepth 100000 in
theorem r_286_1172 : xT.1 286 1172 = some (.aload 7, ((0, 0), ([], []))) := (kT_286 1172).trans rfl
set_option maxRecDepth 100000 in
theorem r_286_1174 : xT.1 286 1174 = some (.invokevirtual 74, ((93, 1), ([], [0]))) := (kT_286 1174).trans rfl
set_option maxRecDepth 100000 in
theorem r_286_1177 : xT.1 286 1177 = some (.bipush (-19), ((0, 0), ([.int (-19)], []))) := (kT_286 1177).trans rfl
set_option maxRecDepth 100000 in
theorem r_286_1179 : xT.1 286 1179 = some (.if_icmp .ne 57, ((1236, 0), ([], []))) := (kT_286 1179).trans rfl
set_option maxRecDepth 100000 in
theorem r_286_1182 : xT.1 286 1182 = some (.aload 7, ((0, 0), ([], []))) := (kT_286 1182).trans rfl
set_option maxRecDepth 100000 in
theorem r_286_1184 : xT.1 286 1184 = some (.bipush 9, ((0, 0), ([.int 9], []))) := (kT_286 1184).trans rfl
set_option maxRecDepth 100000 in
theorem r_286_1186 : xT.1 286 1186 = some (.invokevirtual 271, ((121, 2), ([], [0]))) := (kT_286 1186).trans rfl
set_option maxRecDepth 100000 in
theorem r_286_1189 : xT.1 286 1189 = some (.iconst 2, ((0, 0), ([.int 2], []))) := (kT_286 1189).trans rfl
set_option maxRecDepth 100000 in
theorem r_286_1190 : xT.1 286 1190 = some (.if_icmp .ne 46, ((1236, 0), ([], []))) := (kT_286 1190).trans rfl
set_option maxRecDepth 100000 in
theorem r_286_1193 : xT.1 286 1193 = some (.aload 7, ((0, 0), ([], []))) := (kT_286 1193).trans rfl
set_option maxRecDepth 100000 in
theorem r_286_1195 : xT.1 286 1195 = some (.bipush 9, ((0, 0), ([.int 9], []))) := (kT_286 1195).trans rfl
set_option maxRecDepth 100000 in
theorem r_286_1197 : xT.1 286 1197 = some (.invokevirtual 102, ((122, 2), ([], [0]))) := (kT_286 1197).trans rfl
set_option maxRecDepth 100000 in
theorem r_286_1200 : xT.1 286 1200 = some (.iconst 1, ((0, 0), ([.int 1], []))) := (kT_286 1200).trans rfl
set_option maxRecDepth 100000 in
theorem r_286_1201 : xT.1 286 1201 = some (.if_icmp .ne 35, ((1236, 0), ([], []))) := (kT_286 1201).trans rfl
set_option maxRecDepth 100000 in
theorem r_286_1204 : xT.1 286 1204 = some (.aload 7, ((0, 0), ([], []))) := (kT_286 1204).trans rfl
set_option maxRecDepth 100000 in
theorem r_286_1206 : xT.1 286 1206 = some (.iconst 3, ((0, 0), ([.int 3], []))) := (kT_286 1206).trans rfl
set_option maxRecDepth 100000 in
theorem r_286_1207 : xT.1 286 1207 = some (.invokevirtual 48, ((85, 2), ([], [0]))) := (kT_286 1207).trans rfl
set_option maxRecDepth 100000 in
theorem r_286_1210 : xT.1 286 1210 = some (.iconst 2, ((0, 0), ([.int 2], []))) := (kT_286 1210).trans rfl
set_option maxRecDepth 100000 in
theorem r_286_1211 : xT.1 286 1211 = some (.if_icmp .ne 25, ((1236, 0), ([], []))) := (kT_286 1211).trans rfl
set_option maxRecDepth 100000 in
theorem r_286_1214 : xT.1 286 1214 = some (.aload 7, ((0, 0), ([], []))) := (kT_286 1214).trans rfl
set_option maxRecDepth 100000 in
theorem r_286_1216 : xT.1 286 1216 = some (.iconst 1, ((0, 0), ([.int 1], []))) := (kT_286 1216).trans rfl
set_option maxRecDepth 100000 in
theorem r_286_1217 : xT.1 286 1217 = some (.invokevirtual 268, ((112, 2), ([], [0]))) := (kT_286 1217).trans rfl
set_option maxRecDepth 100000 in
theorem r_286_1220 : xT.1 286 1220 = some (.iload 6, ((0, 0), ([], []))) := (kT_286 1220).trans rfl
set_option maxRecDepth 100000 in
theorem r_286_1222 : xT.1 286 1222 = some (.bipush 42, ((0, 0), ([.int 42], []))) := (kT_286 1222).trans rfl
set_option maxRecDepth 100000 in
theorem r_286_1224 : xT.1 286 1224 = some (.iadd, ((0, 0), ([], []))) := (kT_286 1224).trans rfl
set_option maxRecDepth 100000 in
theorem r_286_1225 : xT.1 286 1225 = some (.if_icmp .ne 11, ((1236, 0), ([], []))) := (kT_286 1225).trans rfl
set_option maxRecDepth 100000 in
theorem r_286_1228 : xT.1 286 1228 = some (.aload 7, ((0, 0), ([], []))) := (kT_286 1228).trans rfl
set_option maxRecDepth 100000 in
theorem r_286_1230 : xT.1 286 1230 = some (.invokevirtual 194, ((124, 1), ([], [0]))) := (kT_286 1230).trans rfl
set_option maxRecDepth 100000 in
theorem r_286_1233 : xT.1 286 1233 = some (.ifCond .ne 5, ((1238, 0), ([], []))) := (kT_286 1233).trans rfl
set_option maxRecDepth 100000 in
theorem r_286_1236 : xT.1 286 1236 = some (.iconst 0, ((0, 0), ([.int 0], []))) := (kT_286 1236).trans rfl
set_option maxRecDepth 100000 in
theorem r_286_1237 : xT.1 286 1237 = some (.ireturn, ((0, 0), ([], []))) := (kT_286 1237).trans rfl
set_option maxRecDepth 100000 in
theorem r_286_1238 : xT.1 286 1238 = some (.aload_n 1, ((0, 0), ([], []))) := (kT_286 1238).trans rfl
set_option maxRecDepth 100000 in
theorem r_286_1239 : xT.1 286 1239 = some (.invokevirtual 274, ((134, 1), ([], [0]))) := (kT_286 1239).trans rfl
set_option maxRecDepth 100000 in
theorem r_286_1242 : xT.1 286 1242 = some (.iload_n 3, ((0, 0), ([], []))) := (kT_286 1242).trans rfl
set_option maxRecDepth 100000 in
theorem r_286_1243 : xT.1 286 1243 = some (.if_icmp .ne 16, ((1259, 0), ([], []))) := (kT_286 1243).trans rfl
set_option maxRecDepth 100000 in
theorem r_286_1246 : xT.1 286 1246 = some (.aload_n 1, ((0, 0), ([], []))) := (kT_286 1246).trans rfl
set_option maxRecDepth 100000 in
theorem r_286_1247 : xT.1 286 1247 = some (.invokestatic 140, ((165, 1), ([], [1]))) := (kT_286 1247).trans rfl
set_option maxRecDepth 100000 in
theorem r_286_1250 : xT.1 286 1250 = some (.iload 4, ((0, 0), ([], []))) := (kT_286 1250).trans rfl
set_option maxRecDepth 100000 in
theorem r_286_1252 : xT.1 286 1252 = some (.if_icmp .ne 7, ((1259, 0), ([], []))) := (kT_286 1252).trans rfl
set_option maxRecDepth 100000 in
theorem r_286_1255 : xT.1 286 1255 = some (.iconst 1, ((0, 0), ([.int 1], []))) := (kT_286 1255).trans rfl
set_option maxRecDepth 100000 in
theorem r_286_1256 : xT.1 286 1256 = some (.goto 4, ((1260, 0), ([], []))) := (kT_286 1256).trans rfl
set_option maxRecDepth 100000 in
theorem r_286_1259 : xT.1 286 1259 = some (.iconst 0, ((0, 0), ([.int 0], []))) := (kT_286 1259).trans rfl
set_option maxRecDepth 100000 in
theorem r_286_1260 : xT.1 286 1260 = some (.ireturn, ((0, 0), ([], []))) := (kT_286 1260).trans rfl
theorem kT_287 (pc : Nat) : xT.1 287 pc = xfind k_287 pc := rfl
theorem r_287_0 : xT.1 287 0 = some (.lload_n 0, ((0, 0), ([], []))) := (kT_287 0).trans rfl
theorem r_287_1 : xT.1 287 1 = some (.lload_n 0, ((0, 0), ([], []))) := (kT_287 1).trans rfl
theorem r_287_2 : xT.1 287 2 = some (.iconst 1, ((0, 0), ([.int 1], []))) := (kT_287 2).trans rfl
theorem r_287_3 : xT.1 287 3 = some (.lushr, ((0, 0), ([], []))) := (kT_287 3).trans rfl
theorem r_287_4 : xT.1 287 4 = some (.ldc2_w 314, ((0, 0), ([.long (6148914691236517205)], []))) := (kT_287 4).trans rfl
theorem r_287_7 : xT.1 287 7 = some (.land, ((0, 0), ([], []))) := (kT_287 7).trans rfl
theorem r_287_8 : xT.1 287 8 = some (.lsub, ((0, 0), ([], []))) := (kT_287 8).trans rfl
theorem r_287_9 : xT.1 287 9 = some (.lstore_n 0, ((0, 0), ([], []))) := (kT_287 9).trans rfl
theorem r_287_10 : xT.1 287 10 = some (.lload_n 0, ((0, 0), ([], []))) := (kT_287 10).trans rfl
theorem r_287_11 : xT.1 287 11 = some (.ldc2_w 316, ((0, 0), ([.long (3689348814741910323)], []))) := (kT_287 11).trans rfl
theorem r_287_14 : xT.1 287 14 = some (.land, ((0, 0), ([], []))) := (kT_287 14).trans rfl
theorem r_287_15 : xT.1 287 15 = some (.lload_n 0, ((0, 0), ([], []))) := (kT_287 15).trans rfl
theorem r_287_16 : xT.1 287 16 = some (.iconst 2, ((0, 0), ([.int 2], []))) := (kT_287 16).trans rfl
theorem r_287_17 : xT.1 287 17 = some (.lushr, ((0, 0), ([], []))) := (kT_287 17).trans rfl
theorem r_287_18 : xT.1 287 18 = some (.ldc2_w 316, ((0, 0), ([.long (3689348814741910323)], []))) := (kT_287 18).trans rfl
theorem r_287_21 : xT.1 287 21 = some (.land, ((0, 0), ([], []))) := (kT_287 21).trans rfl
theorem r_287_22 : xT.1 287 22 = some (.ladd, ((0, 0), ([], []))) := (kT_287 22).trans rfl
theorem r_287_23 : xT.1 287 23 = some (.lstore_n 0, ((0, 0), ([], []))) := (kT_287 23).trans rfl
theorem r_287_24 : xT.1 287 24 = some (.lload_n 0, ((0, 0), ([], []))) := (kT_287 24).trans rfl
theorem r_287_25 : xT.1 287 25 = some (.lload_n 0, ((0, 0), ([], []))) := (kT_287 25).trans rfl
theorem r_287_26 : xT.1 287 26 = some (.iconst 4, ((0, 0), ([.int 4], []))) := (kT_287 26).trans rfl
theorem r_287_27 : xT.1 287 27 = some (.lushr, ((0, 0), ([], []))) := (kT_287 27).trans rfl
theorem r_287_28 : xT.1 287 28 = some (.ladd, ((0, 0), ([], []))) := (kT_287 28).trans rfl
theorem r_287_29 : xT.1 287 29 = some (.ldc2_w 318, ((0, 0), ([.long (1085102592571150095)], []))) := (kT_287 29).trans rfl
theorem r_287_32 : xT.1 287 32 = some (.land, ((0, 0), ([], []))) := (kT_287 32).trans rfl
theorem r_287_33 : xT.1 287 33 = some (.lstore_n 0, ((0, 0), ([], []))) := (kT_287 33).trans rfl
theorem r_287_34 : xT.1 287 34 = some (.lload_n 0, ((0, 0), ([], []))) := (kT_287 34).trans rfl
theorem r_287_35 : xT.1 287 35 = some (.lload_n 0, ((0, 0), ([], []))) := (kT_287 35).trans rfl
theorem r_287_36 : xT.1 287 36 = some (.bipush 8, ((0, 0), ([.int 8], []))) := (kT_287 36).trans rfl
theorem r_287_38 : xT.1 287 38 = some (.lushr, ((0, 0), ([], []))) := (kT_287 38).trans rfl
theorem r_287_39 : xT.1 287 39 = some (.ladd, ((0, 0), ([], []))) := (kT_287 39).trans rfl
theorem r_287_40 : xT.1 287 40 = some (.lstore_n 0, ((0, 0), ([], []))) := (kT_287 40).trans rfl
theorem r_287_41 : xT.1 287 41 = some (.lload_n 0, ((0, 0), ([], []))) := (kT_287 41).trans rfl
theorem r_287_42 : xT.1 287 42 = some (.lload_n 0, ((0, 0), ([], []))) := (kT_287 42).trans rfl
theorem r_287_43 : xT.1 287 43 = some (.bipush 16, ((0, 0), ([.int 16], []))) := (kT_287 43).trans rfl
theorem r_287_45 : xT.1 287 45 = some (.lushr, ((0, 0), ([], []))) := (kT_287 45).trans rfl
theorem r_287_46 : xT.1 287 46 = some (.ladd, ((0, 0), ([], []))) := (kT_287 46).trans rfl
theorem r_287_47 : xT.1 287 47 = some (.lstore_n 0, ((0, 0), ([], []))) := (kT_287 47).trans rfl
theorem r_287_48 : xT.1 287 48 = some (.lload_n 0, ((0, 0), ([], []))) := (kT_287 48).trans rfl
theorem r_287_49 : xT.1 287 49 = some (.lload_n 0, ((0, 0), ([], []))) := (kT_287 49).trans rfl
theorem r_287_50 : xT.1 287 50 = some (.bipush 32, ((0, 0), ([.int 32], []))) := (kT_287 50).trans rfl
theorem r_287_52 : xT.1 287 52 = some (.lushr, ((0, 0), ([], []))) := (kT_287 52).trans rfl
theorem r_287_53 : xT.1 287 53 = some (.ladd, ((0, 0), ([], []))) := (kT_287 53).trans rfl
theorem r_287_54 : xT.1 287 54 = some (.lstore_n 0, ((0, 0), ([], []))) := (kT_287 54).trans rfl
theorem r_287_55 : xT.1 287 55 = some (.lload_n 0, ((0, 0), ([], []))) := (kT_287 55).trans rfl
theorem r_287_56 : xT.1 287 56 = some (.l2i, ((0, 0), ([], []))) := (kT_287 56).trans rfl
theorem r_287_57 : xT.1 287 57 = some (.bipush 127, ((0, 0), ([.int 127], []))) := (kT_287 57).trans rfl
theorem r_287_59 : xT.1 287 59 = some (.iand, ((0, 0), ([], []))) := (kT_287 59).trans rfl
theorem r_287_60 : xT.1 287 60 = some (.ireturn, ((0, 0), ([], []))) := (kT_287 60).trans rfl
theorem kT_288 (pc : Nat) : xT.1 288 pc = xfind k_288 pc := rfl
theorem r_288_0 : xT.1 288 0 = some (.lload_n 0, ((0, 0), ([], []))) := (kT_288 0).trans rfl
theorem r_288_1 : xT.1 288 1 = some (.l2i, ((0, 0), ([], []))) := (kT_288 1).trans rfl
theorem r_288_2 : xT.1 288 2 = some (.istore_n 2, ((0, 0), ([], []))) := (kT_288 2).trans rfl
theorem r_288_3 : xT.1 288 3 = some (.iload_n 2, ((0, 0), ([], []))) := (kT_288 3).trans rfl
theorem r_288_4 : xT.1 288 4 = some (.ifCond .ne 17, ((21, 0), ([], []))) := (kT_288 4).trans rfl
theorem r_288_7 : xT.1 288 7 = some (.bipush 32, ((0, 0), ([.int 32], []))) := (kT_288 7).trans rfl
theorem r_288_9 : xT.1 288 9 = some (.lload_n 0, ((0, 0), ([], []))) := (kT_288 9).trans rfl
theorem r_288_10 : xT.1 288 10 = some (.bipush 32, ((0, 0), ([.int 32], []))) := (kT_288 10).trans rfl
theorem r_288_12 : xT.1 288 12 = some (.lushr, ((0, 0), ([], []))) := (kT_288 12).trans rfl
theorem r_288_13 : xT.1 288 13 = some (.l2i, ((0, 0), ([], []))) := (kT_288 13).trans rfl
theorem r_288_14 : xT.1 288 14 = some (.invokestatic 311, ((289, 1), ([], [1]))) := (kT_288 14).trans rfl
theorem r_288_17 : xT.1 288 17 = some (.iadd, ((0, 0), ([], []))) := (kT_288 17).trans rfl
theorem r_288_18 : xT.1 288 18 = some (.goto 7, ((25, 0), ([], []))) := (kT_288 18).trans rfl
theorem r_288_21 : xT.1 288 21 = some (.iload_n 2, ((0, 0), ([], []))) := (kT_288 21).trans rfl
theorem r_288_22 : xT.1 288 22 = some (.invokestatic 311, ((289, 1), ([], [1]))) := (kT_288 22).trans rfl
theorem r_288_25 : xT.1 288 25 = some (.ireturn, ((0, 0), ([], []))) := (kT_288 25).trans rfl
theorem kT_289 (pc : Nat) : xT.1 289 pc = xfind k_289 pc := rfl
theorem r_289_0 : xT.1 289 0 = some (.iload_n 0, ((0, 0), ([], []))) := (kT_289 0).trans rfl
theorem r_289_1 : xT.1 289 1 = some (.iconst (-1), ((0, 0), ([.int (-1)], []))) := (kT_289 1).trans rfl
theorem r_289_2 : xT.1 289 2 = some (.ixor, ((0, 0), ([], []))) := (kT_289 2).trans rfl
theorem r_289_3 : xT.1 289 3 = some (.iload_n 0, ((0, 0), ([], []))) := (kT_289 3).trans rfl
theorem r_289_4 : xT.1 289 4 = some (.iconst 1, ((0, 0), ([.int 1], []))) := (kT_289 4).trans rfl
theorem r_289_5 : xT.1 289 5 = some (.isub, ((0, 0), ([], []))) := (kT_289 5).trans rfl
theorem r_289_6 : xT.1 289 6 = some (.iand, ((0, 0), ([], []))) := (kT_289 6).trans rfl
theorem r_289_7 : xT.1 289 7 = some (.istore_n 0, ((0, 0), ([], []))) := (kT_289 7).trans rfl
theorem r_289_8 : xT.1 289 8 = some (.iload_n 0, ((0, 0), ([], []))) := (kT_289 8).trans rfl
theorem r_289_9 : xT.1 289 9 = some (.ifCond .gt 8, ((17, 0), ([], []))) := (kT_289 9).trans rfl
theorem r_289_12 : xT.1 289 12 = some (.iload_n 0, ((0, 0), ([], []))) := (kT_289 12).trans rfl
theorem r_289_13 : xT.1 289 13 = some (.bipush 32, ((0, 0), ([.int 32], []))) := (kT_289 13).trans rfl
theorem r_289_15 : xT.1 289 15 = some (.iand, ((0, 0), ([], []))) := (kT_289 15).trans rfl
theorem r_289_16 : xT.1 289 16 = some (.ireturn, ((0, 0), ([], []))) := (kT_289 16).trans rfl
theorem r_289_17 : xT.1 289 17 = some (.iconst 1, ((0, 0), ([.int 1], []))) := (kT_289 17).trans rfl
theorem r_289_18 : xT.1 289 18 = some (.istore_n 1, ((0, 0), ([], []))) := (kT_289 18).trans rfl
theorem r_289_19 : xT.1 289 19 = some (.iload_n 0, ((0, 0), ([], []))) := (kT_289 19).trans rfl
theorem r_289_20 : xT.1 289 20 = some (.ldc_w 264, ((0, 0), ([.int (65536)], []))) := (kT_289 20).trans rfl
theorem r_289_23 : xT.1 289 23 = some (.if_icmp .le 11, ((34, 0), ([], []))) := (kT_289 23).trans rfl
theorem r_289_26 : xT.1 289 26 = some (.iinc 1 16, ((0, 0), ([.int (16)], []))) := (kT_289 26).trans rfl
theorem r_289_29 : xT.1 289 29 = some (.iload_n 0, ((0, 0), ([], []))) := (kT_289 29).trans rfl
theorem r_289_30 : xT.1 289 30 = some (.bipush 16, ((0, 0), ([.int 16], []))) := (kT_289 30).trans rfl
theorem r_289_32 : xT.1 289 32 = some (.iushr, ((0, 0), ([], []))) := (kT_289 32).trans rfl
theorem r_289_33 : xT.1 289 33 = some (.istore_n 0, ((0, 0), ([], []))) := (kT_289 33).trans rfl
theorem r_289_34 : xT.1 289 34 = some (.iload_n 0, ((0, 0), ([], []))) := (kT_289 34).trans rfl
theorem r_289_35 : xT.1 289 35 = some (.sipush 256, ((0, 0), ([.int 256], []))) := (kT_289 35).trans rfl
theorem r_289_38 : xT.1 289 38 = some (.if_icmp .le 11, ((49, 0), ([], []))) := (kT_289 38).trans rfl
theorem r_289_41 : xT.1 289 41 = some (.iinc 1 8, ((0, 0), ([.int (8)], []))) := (kT_289 41).trans rfl
theorem r_289_44 : xT.1 289 44 = some (.iload_n 0, ((0, 0), ([], []))) := (kT_289 44).trans rfl
theorem r_289_45 : xT.1 289 45 = some (.bipush 8, ((0, 0), ([.int 8], []))) := (kT_289 45).trans rfl
theorem r_289_47 : xT.1 289 47 = some (.iushr, ((0, 0), ([], []))) := (kT_289 47).trans rfl
theorem r_289_48 : xT.1 289 48 = some (.istore_n 0, ((0, 0), ([], []))) := (kT_289 48).trans rfl
theorem r_289_49 : xT.1 289 49 = some (.iload_n 0, ((0, 0), ([], []))) := (kT_289 49).trans rfl
theorem r_289_50 : xT.1 289 50 = some (.bipush 16, ((0, 0), ([.int 16], []))) := (kT_289 50).trans rfl
theorem r_289_52 : xT.1 289 52 = some (.if_icmp .le 10, ((62, 0), ([], []))) := (kT_289 52).trans rfl
theorem r_289_55 : xT.1 289 55 = some (.iinc 1 4, ((0, 0), ([.int (4)], []))) := (kT_289 55).trans rfl
theorem r_289_58 : xT.1 289 58 = some (.iload_n 0, ((0, 0), ([], []))) := (kT_289 58).trans rfl
theorem r_289_59 : xT.1 289 59 = some (.iconst 4, ((0, 0), ([.int 4], []))) := (kT_289 59).trans rfl
theorem r_289_60 : xT.1 289 60 = some (.iushr, ((0, 0), ([], []))) := (kT_289 60).trans rfl
theorem r_289_61 : xT.1 289 61 = some (.istore_n 0, ((0, 0), ([], []))) := (kT_289 61).trans rfl
theorem r_289_62 : xT.1 289 62 = some (.iload_n 0, ((0, 0), ([], []))) := (kT_289 62).trans rfl
theorem r_289_63 : xT.1 289 63 = some (.iconst 4, ((0, 0), ([.int 4], []))) := (kT_289 63).trans rfl
theorem r_289_64 : xT.1 289 64 = some (.if_icmp .le 10, ((74, 0), ([], []))) := (kT_289 64).trans rfl
theorem r_289_67 : xT.1 289 67 = some (.iinc 1 2, ((0, 0), ([.int (2)], []))) := (kT_289 67).trans rfl
theorem r_289_70 : xT.1 289 70 = some (.iload_n 0, ((0, 0), ([], []))) := (kT_289 70).trans rfl
theorem r_289_71 : xT.1 289 71 = some (.iconst 2, ((0, 0), ([.int 2], []))) := (kT_289 71).trans rfl
theorem r_289_72 : xT.1 289 72 = some (.iushr, ((0, 0), ([], []))) := (kT_289 72).trans rfl
theorem r_289_73 : xT.1 289 73 = some (.istore_n 0, ((0, 0), ([], []))) := (kT_289 73).trans rfl
theorem r_289_74 : xT.1 289 74 = some (.iload_n 1, ((0, 0), ([], []))) := (kT_289 74).trans rfl
theorem r_289_75 : xT.1 289 75 = some (.iload_n 0, ((0, 0), ([], []))) := (kT_289 75).trans rfl
theorem r_289_76 : xT.1 289 76 = some (.iconst 1, ((0, 0), ([.int 1], []))) := (kT_289 76).trans rfl
theorem r_289_77 : xT.1 289 77 = some (.iushr, ((0, 0), ([], []))) := (kT_289 77).trans rfl
theorem r_289_78 : xT.1 289 78 = some (.iadd, ((0, 0), ([], []))) := (kT_289 78).trans rfl
theorem r_289_79 : xT.1 289 79 = some (.ireturn, ((0, 0), ([], []))) := (kT_289 79).trans rfl
theorem kT_290 (pc : Nat) : xT.1 290 pc = xfind k_290 pc := rfl
theorem r_290_0 : xT.1 290 0 = some (.iconst 0, ((0, 0), ([.int 0], []))) := (kT_290 0).trans rfl
theorem r_290_1 : xT.1 290 1 = some (.istore_n 2, ((0, 0), ([], []))) := (kT_290 1).trans rfl
theorem r_290_2 : xT.1 290 2 = some (.aload_n 0, ((0, 0), ([], []))) := (kT_290 2).trans rfl
theorem r_290_3 : xT.1 290 3 = some (.arraylength, ((0, 0), ([], []))) := (kT_290 3).trans rfl
theorem r_290_4 : xT.1 290 4 = some (.istore_n 3, ((0, 0), ([], []))) := (kT_290 4).trans rfl
theorem r_290_5 : xT.1 290 5 = some (.iload_n 2, ((0, 0), ([], []))) := (kT_290 5).trans rfl
theorem r_290_6 : xT.1 290 6 = some (.iload_n 3, ((0, 0), ([], []))) := (kT_290 6).trans rfl
theorem r_290_7 : xT.1 290 7 = some (.if_icmp .ge 13, ((20, 0), ([], []))) := (kT_290 7).trans rfl
theorem r_290_10 : xT.1 290 10 = some (.aload_n 0, ((0, 0), ([], []))) := (kT_290 10).trans rfl
theorem r_290_11 : xT.1 290 11 = some (.iload_n 2, ((0, 0), ([], []))) := (kT_290 11).trans rfl
theorem r_290_12 : xT.1 290 12 = some (.iload_n 1, ((0, 0), ([], []))) := (kT_290 12).trans rfl
theorem r_290_13 : xT.1 290 13 = some (.iastore, ((0, 0), ([], []))) := (kT_290 13).trans rfl
theorem r_290_14 : xT.1 290 14 = some (.iinc 2 1, ((0, 0), ([.int (1)], []))) := (kT_290 14).trans rfl
theorem r_290_17 : xT.1 290 17 = some (.goto (-12), ((5, 0), ([], []))) := (kT_290 17).trans rfl
theorem r_290_20 : xT.1 290 20 = some (.return_, ((0, 0), ([], []))) := (kT_290 20).trans rfl
theorem kT_291 (pc : Nat) : xT.1 291 pc = xfind k_291 pc := rfl
theorem r_291_0 : xT.1 291 0 = some (.iconst 0, ((0, 0), ([.int 0], []))) := (kT_291 0).trans rfl
theorem r_291_1 : xT.1 291 1 = some (.istore_n 3, ((0, 0), ([], []))) := (kT_291 1).trans rfl
theorem r_291_2 : xT.1 291 2 = some (.aload_n 0, ((0, 0), ([], []))) := (kT_291 2).trans rfl
theorem r_291_3 : xT.1 291 3 = some (.arraylength, ((0, 0), ([], []))) := (kT_291 3).trans rfl
theorem r_291_4 : xT.1 291 4 = some (.istore 4, ((0, 0), ([], []))) := (kT_291 4).trans rfl
theorem r_291_6 : xT.1 291 6 = some (.iload_n 3, ((0, 0), ([], []))) := (kT_291 6).trans rfl
theorem r_291_7 : xT.1 291 7 = some (.iload 4, ((0, 0), ([], []))) := (kT_291 7).trans rfl
theorem r_291_9 : xT.1 291 9 = some (.if_icmp .ge 13, ((22, 0), ([], []))) := (kT_291 9).trans rfl
theorem r_291_12 : xT.1 291 12 = some (.aload_n 0, ((0, 0), ([], []))) := (kT_291 12).trans rfl
theorem r_291_13 : xT.1 291 13 = some (.iload_n 3, ((0, 0), ([], []))) := (kT_291 13).trans rfl
theorem r_291_14 : xT.1 291 14 = some (.lload_n 1, ((0, 0), ([], []))) := (kT_291 14).trans rfl
theorem r_291_15 : xT.1 291 15 = some (.lastore, ((0, 0), ([], []))) := (kT_291 15).trans rfl
theorem r_291_16 : xT.1 291 16 = some (.iinc 3 1, ((0, 0), ([.int (1)], []))) := (kT_291 16).trans rfl
theorem r_291_19 : xT.1 291 19 = some (.goto (-13), ((6, 0), ([], []))) := (kT_291 19).trans rfl
theorem r_291_22 : xT.1 291 22 = some (.return_, ((0, 0), ([], []))) := (kT_291 22).trans rfl
theorem kT_292 (pc : Nat) : xT.1 292 pc = xfind k_292 pc := rfl
theorem r_292_0 : xT.1 292 0 = some (.aload_n 0, ((0, 0), ([], []))) := (kT_292 0).trans rfl
theorem r_292_1 : xT.1 292 1 = some (.bipush 16, ((0, 0), ([.int 16], []))) := (kT_292 1).trans rfl
theorem r_292_3 : xT.1 292 3 = some (.invokespecial 1, ((298, 2), ([], [2]))) := (kT_292 3).trans rfl
theorem r_292_6 : xT.1 292 6 = some (.return_, ((0, 0), ([], []))) := (kT_292 6).trans rfl
theorem kT_293 (pc : Nat) : xT.1 293 pc = xfind k_293 pc := rfl
theorem r_293_0 : xT.1 293 0 = some (.aload_n 0, ((0, 0), ([], []))) := (kT_293 0).trans rfl
theorem r_293_1 : xT.1 293 1 = some (.iload_n 1, ((0, 0), ([], []))) := (kT_293 1).trans rfl
theorem r_293_2 : xT.1 293 2 = some (.invokespecial 50, ((304, 2), ([], [3]))) := (kT_293 2).trans rfl
theorem r_293_5 : xT.1 293 5 = some (.pop, ((0, 0), ([], []))) := (kT_293 5).trans rfl
theorem r_293_6 : xT.1 293 6 = some (.aload_n 0, ((0, 0), ([], []))) := (kT_293 6).trans rfl
theorem r_293_7 : xT.1 293 7 = some (.areturn, ((0, 0), ([], []))) := (kT_293 7).trans rfl
theorem kT_294 (pc : Nat) : xT.1 294 pc = xfind k_294 pc := rfl
theorem r_294_0 : xT.1 294 0 = some (.aload_n 0, ((0, 0), ([], []))) := (kT_294 0).trans rfl
theorem r_294_1 : xT.1 294 1 = some (.iload_n 1, ((0, 0), ([], []))) := (kT_294 1).trans rfl
theorem r_294_2 : xT.1 294 2 = some (.invokespecial 53, ((305, 2), ([], [3]))) := (kT_294 2).trans rfl
theorem r_294_5 : xT.1 294 5 = some (.pop, ((0, 0), ([], []))) := (kT_294 5).trans rfl
theorem r_294_6 : xT.1 294 6 = some (.aload_n 0, ((0, 0), ([], []))) := (kT_294 6).trans rfl
theorem r_294_7 : xT.1 294 7 = some (.areturn, ((0, 0), ([], []))) := (kT_294 7).trans rfl
theorem kT_295 (pc : Nat) : xT.1 295 pc = xfind k_295 pc := rfl
theorem r_295_0 : xT.1 295 0 = some (.aload_n 0, ((0, 0), ([], []))) := (kT_295 0).trans rfl
theorem r_295_1 : xT.1 295 1 = some (.iload_n 1, ((0, 0), ([], []))) := (kT_295 1).trans rfl
theorem r_295_2 : xT.1 295 2 = some (.invokespecial 329, ((303, 2), ([], [3]))) := (kT_295 2).trans rfl
theorem r_295_5 : xT.1 295 5 = some (.ireturn, ((0, 0), ([], []))) := (kT_295 5).trans rfl
theorem kT_296 (pc : Nat) : xT.1 296 pc = xfind k_296 pc := rfl
theorem r_296_0 : xT.1 296 0 = some (.aload_n 0, ((0, 0), ([], []))) := (kT_296 0).trans rfl
theorem r_296_1 : xT.1 296 1 = some (.iload_n 1, ((0, 0), ([], []))) := (kT_296 1).trans rfl
theorem r_296_2 : xT.1 296 2 = some (.invokespecial 333, ((302, 2), ([], [3]))) := (kT_296 2).trans rfl
theorem r_296_5 : xT.1 296 5 = some (.return_, ((0, 0), ([], []))) := (kT_296 5).trans rfl
theorem kT_297 (pc : Nat) : xT.1 297 pc = xfind k_297 pc := rfl
theorem r_297_0 : xT.1 297 0 = some (.aload_n 0, ((0, 0), ([], []))) := (kT_297 0).trans rfl
theorem r_297_1 : xT.1 297 1 = some (.invokespecial 343, ((299, 1), ([], [3]))) := (kT_297 1).trans rfl
theorem r_297_4 : xT.1 297 4 = some (.ireturn, ((0, 0), ([], []))) := (kT_297 4).trans rfl
theorem kT_298 (pc : Nat) : xT.1 298 pc = xfind k_298 pc := rfl
theorem r_298_0 : xT.1 298 0 = some (.aload_n 0, ((0, 0), ([], []))) := (kT_298 0).trans rfl
theorem r_298_1 : xT.1 298 1 = some (.invokespecial 3, ((0, 1), ([], [5]))) := (kT_298 1).trans rfl
theorem r_298_4 : xT.1 298 4 = some (.getstatic 18, ((0, 0), ([.int 1], []))) := (kT_298 4).trans rfl
theorem r_298_7 : xT.1 298 7 = some (.ifCond .eq 18, ((25, 0), ([], []))) := (kT_298 7).trans rfl
theorem r_298_10 : xT.1 298 10 = some (.aload_n 0, ((0, 0), ([], []))) := (kT_298 10).trans rfl
theorem r_298_11 : xT.1 298 11 = some (.iload_n 1, ((0, 0), ([], []))) := (kT_298 11).trans rfl
theorem r_298_12 : xT.1 298 12 = some (.newarray .byte, ((0, 0), ([], []))) := (kT_298 12).trans rfl
theorem r_298_14 : xT.1 298 14 = some (.putfield 15, ((10, 0), ([], [2]))) := (kT_298 14).trans rfl
theorem r_298_17 : xT.1 298 17 = some (.aload_n 0, ((0, 0), ([], []))) := (kT_298 17).trans rfl
theorem r_298_18 : xT.1 298 18 = some (.iconst 0, ((0, 0), ([.int 0], []))) := (kT_298 18).trans rfl
theorem r_298_19 : xT.1 298 19 = some (.putfield 22, ((10, 1), ([], [3]))) := (kT_298 19).trans rfl
theorem r_298_22 : xT.1 298 22 = some (.goto 16, ((38, 0), ([], []))) := (kT_298 22).trans rfl
theorem r_298_25 : xT.1 298 25 = some (.aload_n 0, ((0, 0), ([], []))) := (kT_298 25).trans rfl
theorem r_298_26 : xT.1 298 26 = some (.iload_n 1, ((0, 0), ([], []))) := (kT_298 26).trans rfl
theorem r_298_30 : xT.1 298 30 = some (.putfield 15, ((10, 0), ([], [2]))) := (kT_298 30).trans rfl
theorem r_298_33 : xT.1 298 33 = some (.aload_n 0, ((0, 0), ([], []))) := (kT_298 33).trans rfl
theorem r_298_34 : xT.1 298 34 = some (.iconst 1, ((0, 0), ([.int 1], []))) := (kT_298 34).trans rfl
theorem r_298_35 : xT.1 298 35 = some (.putfield 22, ((10, 1), ([], [3]))) := (kT_298 35).trans rfl
theorem r_298_38 : xT.1 298 38 = some (.return_, ((0, 0), ([], []))) := (kT_298 38).trans rfl
theorem kT_299 (pc : Nat) : xT.1 299 pc = xfind k_299 pc := rfl
theorem r_299_0 : xT.1 299 0 = some (.aload_n 0, ((0, 0), ([], []))) := (kT_299 0).trans rfl
theorem r_299_1 : xT.1 299 1 = some (.getfield 79, ((10, 3), ([], []))) := (kT_299 1).trans rfl
theorem r_299_4 : xT.1 299 4 = some (.ireturn, ((0, 0), ([], []))) := (kT_299 4).trans rfl
theorem kT_300 (pc : Nat) : xT.1 300 pc = xfind k_300 pc := rfl
theorem r_300_0 : xT.1 300 0 = some (.aload_n 0, ((0, 0), ([], []))) := (kT_300 0).trans rfl
theorem r_300_1 : xT.1 300 1 = some (.getfield 15, ((10, 0), ([], []))) := (kT_300 1).trans rfl
theorem r_300_4 : xT.1 300 4 = some (.arraylength, ((0, 0), ([], []))) := (kT_300 4).trans rfl
theorem r_300_5 : xT.1 300 5 = some (.aload_n 0, ((0, 0), ([], []))) := (kT_300 5).trans rfl
theorem r_300_6 : xT.1 300 6 = some (.getfield 22, ((10, 1), ([], []))) := (kT_300 6).trans rfl
theorem r_300_9 : xT.1 300 9 = some (.ishr, ((0, 0), ([], []))) := (kT_300 9).trans rfl
theorem r_300_10 : xT.1 300 10 = some (.istore_n 2, ((0, 0), ([], []))) := (kT_300 10).trans rfl
theorem r_300_11 : xT.1 300 11 = some (.iload_n 1, ((0, 0), ([], []))) := (kT_300 11).trans rfl
theorem r_300_12 : xT.1 300 12 = some (.iload_n 2, ((0, 0), ([], []))) := (kT_300 12).trans rfl
theorem r_300_13 : xT.1 300 13 = some (.isub, ((0, 0), ([], []))) := (kT_300 13).trans rfl
theorem r_300_14 : xT.1 300 14 = some (.ifCond .le 24, ((38, 0), ([], []))) := (kT_300 14).trans rfl
theorem r_300_17 : xT.1 300 17 = some (.aload_n 0, ((0, 0), ([], []))) := (kT_300 17).trans rfl
theorem r_300_18 : xT.1 300 18 = some (.aload_n 0, ((0, 0), ([], []))) := (kT_300 18).trans rfl
theorem r_300_19 : xT.1 300 19 = some (.getfield 15, ((10, 0), ([], []))) := (kT_300 19).trans rfl
theorem r_300_22 : xT.1 300 22 = some (.aload_n 0, ((0, 0), ([], []))) := (kT_300 22).trans rfl
theorem r_300_23 : xT.1 300 23 = some (.iload_n 1, ((0, 0), ([], []))) := (kT_300 23).trans rfl
theorem r_300_24 : xT.1 300 24 = some (.invokevirtual 104, ((301, 2), ([], [0]))) := (kT_300 24).trans rfl
theorem r_300_27 : xT.1 300 27 = some (.aload_n 0, ((0, 0), ([], []))) := (kT_300 27).trans rfl
theorem r_300_28 : xT.1 300 28 = some (.getfield 22, ((10, 1), ([], []))) := (kT_300 28).trans rfl
theorem r_300_31 : xT.1 300 31 = some (.ishl, ((0, 0), ([], []))) := (kT_300 31).trans rfl
theorem r_300_32 : xT.1 300 32 = some (.invokestatic 108, ((310, 2), ([], [1]))) := (kT_300 32).trans rfl
theorem r_300_35 : xT.1 300 35 = some (.putfield 15, ((10, 0), ([], [2]))) := (kT_300 35).trans rfl
theorem r_300_38 : xT.1 300 38 = some (.return_, ((0, 0), ([], []))) := (kT_300 38).trans rfl
theorem kT_301 (pc : Nat) : xT.1 301 pc = xfind k_301 pc := rfl
theorem r_301_0 : xT.1 301 0 = some (.aload_n 0, ((0, 0), ([], []))) := (kT_301 0).trans rfl
theorem r_301_1 : xT.1 301 1 = some (.getfield 15, ((10, 0), ([], []))) := (kT_301 1).trans rfl
theorem r_301_4 : xT.1 301 4 = some (.arraylength, ((0, 0), ([], []))) := (kT_301 4).trans rfl
theorem r_301_5 : xT.1 301 5 = some (.istore_n 2, ((0, 0), ([], []))) := (kT_301 5).trans rfl
theorem r_301_6 : xT.1 301 6 = some (.iload_n 1, ((0, 0), ([], []))) := (kT_301 6).trans rfl
theorem r_301_7 : xT.1 301 7 = some (.aload_n 0, ((0, 0), ([], []))) := (kT_301 7).trans rfl
theorem r_301_8 : xT.1 301 8 = some (.getfield 22, ((10, 1), ([], []))) := (kT_301 8).trans rfl
theorem r_301_11 : xT.1 301 11 = some (.ishl, ((0, 0), ([], []))) := (kT_301 11).trans rfl
theorem r_301_12 : xT.1 301 12 = some (.istore_n 3, ((0, 0), ([], []))) := (kT_301 12).trans rfl
theorem r_301_13 : xT.1 301 13 = some (.iload_n 3, ((0, 0), ([], []))) := (kT_301 13).trans rfl
theorem r_301_14 : xT.1 301 14 = some (.iload_n 2, ((0, 0), ([], []))) := (kT_301 14).trans rfl
theorem r_301_15 : xT.1 301 15 = some (.isub, ((0, 0), ([], []))) := (kT_301 15).trans rfl
theorem r_301_16 : xT.1 301 16 = some (.istore 4, ((0, 0), ([], []))) := (kT_301 16).trans rfl
theorem r_301_18 : xT.1 301 18 = some (.iload_n 2, ((0, 0), ([], []))) := (kT_301 18).trans rfl
theorem r_301_19 : xT.1 301 19 = some (.iload 4, ((0, 0), ([], []))) := (kT_301 19).trans rfl
theorem r_301_21 : xT.1 301 21 = some (.iload_n 2, ((0, 0), ([], []))) := (kT_301 21).trans rfl
theorem r_301_22 : xT.1 301 22 = some (.iconst 2, ((0, 0), ([.int 2], []))) := (kT_301 22).trans rfl
theorem r_301_23 : xT.1 301 23 = some (.aload_n 0, ((0, 0), ([], []))) := (kT_301 23).trans rfl
theorem r_301_24 : xT.1 301 24 = some (.getfield 22, ((10, 1), ([], []))) := (kT_301 24).trans rfl
theorem r_301_27 : xT.1 301 27 = some (.ishl, ((0, 0), ([], []))) := (kT_301 27).trans rfl
theorem r_301_28 : xT.1 301 28 = some (.iadd, ((0, 0), ([], []))) := (kT_301 28).trans rfl
theorem r_301_29 : xT.1 301 29 = some (.invokestatic 114, ((311, 3), ([], [1]))) := (kT_301 29).trans rfl
theorem r_301_32 : xT.1 301 32 = some (.istore 5, ((0, 0), ([], []))) := (kT_301 32).trans rfl
theorem r_301_34 : xT.1 301 34 = some (.iload 5, ((0, 0), ([], []))) := (kT_301 34).trans rfl
theorem r_301_36 : xT.1 301 36 = some (.ldc 39, ((0, 0), ([.int (2147483647)], []))) := (kT_301 36).trans rfl
theorem r_301_38 : xT.1 301 38 = some (.if_icmp .ne 13, ((51, 0), ([], []))) := (kT_301 38).trans rfl
theorem r_301_44 : xT.1 301 44 = some (.dup, ((0, 0), ([], []))) := (kT_301 44).trans rfl
theorem r_301_50 : xT.1 301 50 = some (.athrow, ((0, 0), ([], []))) := (kT_301 50).trans rfl
theorem r_301_51 : xT.1 301 51 = some (.iload 5, ((0, 0), ([], []))) := (kT_301 51).trans rfl
theorem r_301_53 : xT.1 301 53 = some (.aload_n 0, ((0, 0), ([], []))) := (kT_301 53).trans rfl
theorem r_301_54 : xT.1 301 54 = some (.getfield 22, ((10, 1), ([], []))) := (kT_301 54).trans rfl
theorem r_301_57 : xT.1 301 57 = some (.ishr, ((0, 0), ([], []))) := (kT_301 57).trans rfl
theorem r_301_58 : xT.1 301 58 = some (.ireturn, ((0, 0), ([], []))) := (kT_301 58).trans rfl
theorem kT_302 (pc : Nat) : xT.1 302 pc = xfind k_302 pc := rfl
theorem r_302_0 : xT.1 302 0 = some (.iload_n 1, ((0, 0), ([], []))) := (kT_302 0).trans rfl
theorem r_302_1 : xT.1 302 1 = some (.ifCond .ge 12, ((13, 0), ([], []))) := (kT_302 1).trans rfl
theorem r_302_7 : xT.1 302 7 = some (.dup, ((0, 0), ([], []))) := (kT_302 7).trans rfl
theorem r_302_8 : xT.1 302 8 = some (.iload_n 1, ((0, 0), ([], []))) := (kT_302 8).trans rfl
theorem r_302_12 : xT.1 302 12 = some (.athrow, ((0, 0), ([], []))) := (kT_302 12).trans rfl
theorem r_302_13 : xT.1 302 13 = some (.aload_n 0, ((0, 0), ([], []))) := (kT_302 13).trans rfl
theorem r_302_14 : xT.1 302 14 = some (.iload_n 1, ((0, 0), ([], []))) := (kT_302 14).trans rfl
theorem r_302_15 : xT.1 302 15 = some (.invokevirtual 100, ((300, 2), ([], [0]))) := (kT_302 15).trans rfl
theorem r_302_18 : xT.1 302 18 = some (.aload_n 0, ((0, 0), ([], []))) := (kT_302 18).trans rfl
theorem r_302_19 : xT.1 302 19 = some (.getfield 79, ((10, 3), ([], []))) := (kT_302 19).trans rfl
theorem r_302_22 : xT.1 302 22 = some (.iload_n 1, ((0, 0), ([], []))) := (kT_302 22).trans rfl
theorem r_302_23 : xT.1 302 23 = some (.if_icmp .ge 40, ((63, 0), ([], []))) := (kT_302 23).trans rfl
theorem r_302_26 : xT.1 302 26 = some (.aload_n 0, ((0, 0), ([], []))) := (kT_302 26).trans rfl
theorem r_302_27 : xT.1 302 27 = some (.invokevirtual 83, ((306, 1), ([], [0]))) := (kT_302 27).trans rfl
theorem r_302_30 : xT.1 302 30 = some (.ifCond .eq 18, ((48, 0), ([], []))) := (kT_302 30).trans rfl
theorem r_302_33 : xT.1 302 33 = some (.aload_n 0, ((0, 0), ([], []))) := (kT_302 33).trans rfl
theorem r_302_34 : xT.1 302 34 = some (.getfield 15, ((10, 0), ([], []))) := (kT_302 34).trans rfl
theorem r_302_37 : xT.1 302 37 = some (.aload_n 0, ((0, 0), ([], []))) := (kT_302 37).trans rfl
theorem r_302_38 : xT.1 302 38 = some (.getfield 79, ((10, 3), ([], []))) := (kT_302 38).trans rfl
theorem r_302_41 : xT.1 302 41 = some (.iload_n 1, ((0, 0), ([], []))) := (kT_302 41).trans rfl
theorem r_302_45 : xT.1 302 45 = some (.goto 31, ((76, 0), ([], []))) := (kT_302 45).trans rfl
theorem r_302_48 : xT.1 302 48 = some (.aload_n 0, ((0, 0), ([], []))) := (kT_302 48).trans rfl
theorem r_302_49 : xT.1 302 49 = some (.getfield 15, ((10, 0), ([], []))) := (kT_302 49).trans rfl
theorem r_302_52 : xT.1 302 52 = some (.aload_n 0, ((0, 0), ([], []))) := (kT_302 52).trans rfl
theorem r_302_53 : xT.1 302 53 = some (.getfield 79, ((10, 3), ([], []))) := (kT_302 53).trans rfl
theorem r_302_56 : xT.1 302 56 = some (.iload_n 1, ((0, 0), ([], []))) := (kT_302 56).trans rfl
theorem r_302_60 : xT.1 302 60 = some (.goto 16, ((76, 0), ([], []))) := (kT_302 60).trans rfl
theorem r_302_63 : xT.1 302 63 = some (.aload_n 0, ((0, 0), ([], []))) := (kT_302 63).trans rfl
theorem r_302_64 : xT.1 302 64 = some (.getfield 79, ((10, 3), ([], []))) := (kT_302 64).trans rfl
theorem r_302_67 : xT.1 302 67 = some (.iload_n 1, ((0, 0), ([], []))) := (kT_302 67).trans rfl
theorem r_302_68 : xT.1 302 68 = some (.if_icmp .le 8, ((76, 0), ([], []))) := (kT_302 68).trans rfl
theorem r_302_71 : xT.1 302 71 = some (.aload_n 0, ((0, 0), ([], []))) := (kT_302 71).trans rfl
theorem r_302_72 : xT.1 302 72 = some (.iconst 1, ((0, 0), ([.int 1], []))) := (kT_302 72).trans rfl
theorem r_302_73 : xT.1 302 73 = some (.putfield 73, ((10, 2), ([], [1]))) := (kT_302 73).trans rfl
theorem r_302_76 : xT.1 302 76 = some (.aload_n 0, ((0, 0), ([], []))) := (kT_302 76).trans rfl
theorem r_302_77 : xT.1 302 77 = some (.iload_n 1, ((0, 0), ([], []))) := (kT_302 77).trans rfl
theorem r_302_78 : xT.1 302 78 = some (.putfield 79, ((10, 3), ([], [0]))) := (kT_302 78).trans rfl
theorem r_302_81 : xT.1 302 81 = some (.return_, ((0, 0), ([], []))) := (kT_302 81).trans rfl
theorem kT_303 (pc : Nat) : xT.1 303 pc = xfind k_303 pc := rfl
theorem r_303_0 : xT.1 303 0 = some (.aload_n 0, ((0, 0), ([], []))) := (kT_303 0).trans rfl
theorem r_303_1 : xT.1 303 1 = some (.getfield 22, ((10, 1), ([], []))) := (kT_303 1).trans rfl
theorem r_303_4 : xT.1 303 4 = some (.istore_n 2, ((0, 0), ([], []))) := (kT_303 4).trans rfl
theorem r_303_5 : xT.1 303 5 = some (.aload_n 0, ((0, 0), ([], []))) := (kT_303 5).trans rfl
theorem r_303_6 : xT.1 303 6 = some (.getfield 15, ((10, 0), ([], []))) := (kT_303 6).trans rfl
theorem r_303_9 : xT.1 303 9 = some (.astore_n 3, ((0, 0), ([], []))) := (kT_303 9).trans rfl
theorem r_303_10 : xT.1 303 10 = some (.aload_n 0, ((0, 0), ([], []))) := (kT_303 10).trans rfl
theorem r_303_11 : xT.1 303 11 = some (.getfield 79, ((10, 3), ([], []))) := (kT_303 11).trans rfl
theorem r_303_14 : xT.1 303 14 = some (.aload_n 3, ((0, 0), ([], []))) := (kT_303 14).trans rfl
theorem r_303_15 : xT.1 303 15 = some (.arraylength, ((0, 0), ([], []))) := (kT_303 15).trans rfl
theorem r_303_16 : xT.1 303 16 = some (.iload_n 2, ((0, 0), ([], []))) := (kT_303 16).trans rfl
theorem r_303_17 : xT.1 303 17 = some (.ishr, ((0, 0), ([], []))) := (kT_303 17).trans rfl
theorem r_303_18 : xT.1 303 18 = some (.invokestatic 138, ((21, 2), ([], [4]))) := (kT_303 18).trans rfl
theorem r_303_21 : xT.1 303 21 = some (.istore 4, ((0, 0), ([], []))) := (kT_303 21).trans rfl
theorem r_303_23 : xT.1 303 23 = some (.iload_n 1, ((0, 0), ([], []))) := (kT_303 23).trans rfl
theorem r_303_24 : xT.1 303 24 = some (.iload 4, ((0, 0), ([], []))) := (kT_303 24).trans rfl
theorem r_303_26 : xT.1 303 26 = some (.invokestatic 144, ((4, 2), ([], [4]))) := (kT_303 26).trans rfl
theorem r_303_29 : xT.1 303 29 = some (.iload_n 2, ((0, 0), ([], []))) := (kT_303 29).trans rfl
theorem r_303_30 : xT.1 303 30 = some (.ifCond .ne 12, ((42, 0), ([], []))) := (kT_303 30).trans rfl
theorem r_303_33 : xT.1 303 33 = some (.aload_n 3, ((0, 0), ([], []))) := (kT_303 33).trans rfl
theorem r_303_34 : xT.1 303 34 = some (.iload_n 1, ((0, 0), ([], []))) := (kT_303 34).trans rfl
theorem r_303_35 : xT.1 303 35 = some (.baload, ((0, 0), ([], []))) := (kT_303 35).trans rfl
theorem r_303_36 : xT.1 303 36 = some (.sipush 255, ((0, 0), ([.int 255], []))) := (kT_303 36).trans rfl
theorem r_303_39 : xT.1 303 39 = some (.iand, ((0, 0), ([], []))) := (kT_303 39).trans rfl
theorem r_303_40 : xT.1 303 40 = some (.i2c, ((0, 0), ([], []))) := (kT_303 40).trans rfl
theorem r_303_41 : xT.1 303 41 = some (.ireturn, ((0, 0), ([], []))) := (kT_303 41).trans rfl
theorem r_303_42 : xT.1 303 42 = some (.aload_n 3, ((0, 0), ([], []))) := (kT_303 42).trans rfl
theorem r_303_43 : xT.1 303 43 = some (.iload_n 1, ((0, 0), ([], []))) := (kT_303 43).trans rfl
theorem r_303_47 : xT.1 303 47 = some (.ireturn, ((0, 0), ([], []))) := (kT_303 47).trans rfl
theorem kT_304 (pc : Nat) : xT.1 304 pc = xfind k_304 pc := rfl
theorem r_304_0 : xT.1 304 0 = some (.aload_n 0, ((0, 0), ([], []))) := (kT_304 0).trans rfl
theorem r_304_1 : xT.1 304 1 = some (.aload_n 0, ((0, 0), ([], []))) := (kT_304 1).trans rfl
theorem r_304_2 : xT.1 304 2 = some (.getfield 79, ((10, 3), ([], []))) := (kT_304 2).trans rfl
theorem r_304_5 : xT.1 304 5 = some (.iconst 1, ((0, 0), ([.int 1], []))) := (kT_304 5).trans rfl
theorem r_304_6 : xT.1 304 6 = some (.iadd, ((0, 0), ([], []))) := (kT_304 6).trans rfl
theorem r_304_7 : xT.1 304 7 = some (.invokevirtual 100, ((300, 2), ([], [0]))) := (kT_304 7).trans rfl
theorem r_304_10 : xT.1 304 10 = some (.aload_n 0, ((0, 0), ([], []))) := (kT_304 10).trans rfl
theorem r_304_11 : xT.1 304 11 = some (.invokevirtual 83, ((306, 1), ([], [0]))) := (kT_304 11).trans rfl
theorem r_304_14 : xT.1 304 14 = some (.ifCond .eq 31, ((45, 0), ([], []))) := (kT_304 14).trans rfl
theorem r_304_17 : xT.1 304 17 = some (.iload_n 1, ((0, 0), ([], []))) := (kT_304 17).trans rfl
theorem r_304_18 : xT.1 304 18 = some (.invokestatic 191, ((309, 1), ([], [1]))) := (kT_304 18).trans rfl
theorem r_304_21 : xT.1 304 21 = some (.ifCond .eq 24, ((45, 0), ([], []))) := (kT_304 21).trans rfl
theorem r_304_24 : xT.1 304 24 = some (.aload_n 0, ((0, 0), ([], []))) := (kT_304 24).trans rfl
theorem r_304_25 : xT.1 304 25 = some (.getfield 15, ((10, 0), ([], []))) := (kT_304 25).trans rfl
theorem r_304_28 : xT.1 304 28 = some (.aload_n 0, ((0, 0), ([], []))) := (kT_304 28).trans rfl
theorem r_304_29 : xT.1 304 29 = some (.dup, ((0, 0), ([], []))) := (kT_304 29).trans rfl
theorem r_304_30 : xT.1 304 30 = some (.getfield 79, ((10, 3), ([], []))) := (kT_304 30).trans rfl
theorem r_304_33 : xT.1 304 33 = some (.dup_x1, ((0, 0), ([], []))) := (kT_304 33).trans rfl
theorem r_304_34 : xT.1 304 34 = some (.iconst 1, ((0, 0), ([.int 1], []))) := (kT_304 34).trans rfl
theorem r_304_35 : xT.1 304 35 = some (.iadd, ((0, 0), ([], []))) := (kT_304 35).trans rfl
theorem r_304_36 : xT.1 304 36 = some (.putfield 79, ((10, 3), ([], [0]))) := (kT_304 36).trans rfl
theorem r_304_39 : xT.1 304 39 = some (.iload_n 1, ((0, 0), ([], []))) := (kT_304 39).trans rfl
theorem r_304_40 : xT.1 304 40 = some (.i2b, ((0, 0), ([], []))) := (kT_304 40).trans rfl
theorem r_304_41 : xT.1 304 41 = some (.bastore, ((0, 0), ([], []))) := (kT_304 41).trans rfl
theorem r_304_42 : xT.1 304 42 = some (.goto 33, ((75, 0), ([], []))) := (kT_304 42).trans rfl
theorem r_304_45 : xT.1 304 45 = some (.aload_n 0, ((0, 0), ([], []))) := (kT_304 45).trans rfl
theorem r_304_46 : xT.1 304 46 = some (.invokevirtual 83, ((306, 1), ([], [0]))) := (kT_304 46).trans rfl
theorem r_304_49 : xT.1 304 49 = some (.ifCond .eq 7, ((56, 0), ([], []))) := (kT_304 49).trans rfl
theorem r_304_52 : xT.1 304 52 = some (.aload_n 0, ((0, 0), ([], []))) := (kT_304 52).trans rfl
theorem r_304_56 : xT.1 304 56 = some (.aload_n 0, ((0, 0), ([], []))) := (kT_304 56).trans rfl
theorem r_304_57 : xT.1 304 57 = some (.getfield 15, ((10, 0), ([], []))) := (kT_304 57).trans rfl
theorem r_304_60 : xT.1 304 60 = some (.aload_n 0, ((0, 0), ([], []))) := (kT_304 60).trans rfl
theorem r_304_61 : xT.1 304 61 = some (.dup, ((0, 0), ([], []))) := (kT_304 61).trans rfl
theorem r_304_62 : xT.1 304 62 = some (.getfield 79, ((10, 3), ([], []))) := (kT_304 62).trans rfl
theorem r_304_65 : xT.1 304 65 = some (.dup_x1, ((0, 0), ([], []))) := (kT_304 65).trans rfl
theorem r_304_66 : xT.1 304 66 = some (.iconst 1, ((0, 0), ([.int 1], []))) := (kT_304 66).trans rfl
theorem r_304_67 : xT.1 304 67 = some (.iadd, ((0, 0), ([], []))) := (kT_304 67).trans rfl
theorem r_304_68 : xT.1 304 68 = some (.putfield 79, ((10, 3), ([], [0]))) := (kT_304 68).trans rfl
theorem r_304_71 : xT.1 304 71 = some (.iload_n 1, ((0, 0), ([], []))) := (kT_304 71).trans rfl
theorem r_304_75 : xT.1 304 75 = some (.aload_n 0, ((0, 0), ([], []))) := (kT_304 75).trans rfl
theorem r_304_76 : xT.1 304 76 = some (.areturn, ((0, 0), ([], []))) := (kT_304 76).trans rfl
theorem kT_305 (pc : Nat) : xT.1 305 pc = xfind k_305 pc := rfl
theorem r_305_0 : xT.1 305 0 = some (.aload_n 0, ((0, 0), ([], []))) := (kT_305 0).trans rfl
theorem r_305_1 : xT.1 305 1 = some (.getfield 79, ((10, 3), ([], []))) := (kT_305 1).trans rfl
theorem r_305_4 : xT.1 305 4 = some (.istore_n 2, ((0, 0), ([], []))) := (kT_305 4).trans rfl
theorem r_305_5 : xT.1 305 5 = some (.iload_n 2, ((0, 0), ([], []))) := (kT_305 5).trans rfl
theorem r_305_6 : xT.1 305 6 = some (.iload_n 1, ((0, 0), ([], []))) := (kT_305 6).trans rfl
theorem r_305_7 : xT.1 305 7 = some (.invokestatic 245, ((308, 1), ([], [1]))) := (kT_305 7).trans rfl
theorem r_305_10 : xT.1 305 10 = some (.iadd, ((0, 0), ([], []))) := (kT_305 10).trans rfl
theorem r_305_11 : xT.1 305 11 = some (.istore_n 3, ((0, 0), ([], []))) := (kT_305 11).trans rfl
theorem r_305_12 : xT.1 305 12 = some (.aload_n 0, ((0, 0), ([], []))) := (kT_305 12).trans rfl
theorem r_305_13 : xT.1 305 13 = some (.iload_n 3, ((0, 0), ([], []))) := (kT_305 13).trans rfl
theorem r_305_14 : xT.1 305 14 = some (.invokevirtual 100, ((300, 2), ([], [0]))) := (kT_305 14).trans rfl
theorem r_305_17 : xT.1 305 17 = some (.aload_n 0, ((0, 0), ([], []))) := (kT_305 17).trans rfl
theorem r_305_18 : xT.1 305 18 = some (.invokevirtual 83, ((306, 1), ([], [0]))) := (kT_305 18).trans rfl
theorem r_305_21 : xT.1 305 21 = some (.ifCond .eq 16, ((37, 0), ([], []))) := (kT_305 21).trans rfl
theorem r_305_24 : xT.1 305 24 = some (.iload_n 1, ((0, 0), ([], []))) := (kT_305 24).trans rfl
theorem r_305_25 : xT.1 305 25 = some (.iload_n 3, ((0, 0), ([], []))) := (kT_305 25).trans rfl
theorem r_305_26 : xT.1 305 26 = some (.aload_n 0, ((0, 0), ([], []))) := (kT_305 26).trans rfl
theorem r_305_27 : xT.1 305 27 = some (.getfield 15, ((10, 0), ([], []))) := (kT_305 27).trans rfl
theorem r_305_30 : xT.1 305 30 = some (.invokestatic 248, ((307, 3), ([], [1]))) := (kT_305 30).trans rfl
theorem r_305_33 : xT.1 305 33 = some (.pop, ((0, 0), ([], []))) := (kT_305 33).trans rfl
theorem r_305_34 : xT.1 305 34 = some (.goto 14, ((48, 0), ([], []))) := (kT_305 34).trans rfl
theorem r_305_37 : xT.1 305 37 = some (.iload_n 1, ((0, 0), ([], []))) := (kT_305 37).trans rfl
theorem r_305_38 : xT.1 305 38 = some (.iload_n 2, ((0, 0), ([], []))) := (kT_305 38).trans rfl
theorem r_305_39 : xT.1 305 39 = some (.iload_n 3, ((0, 0), ([], []))) := (kT_305 39).trans rfl
theorem r_305_40 : xT.1 305 40 = some (.aload_n 0, ((0, 0), ([], []))) := (kT_305 40).trans rfl
theorem r_305_41 : xT.1 305 41 = some (.getfield 15, ((10, 0), ([], []))) := (kT_305 41).trans rfl
theorem r_305_47 : xT.1 305 47 = some (.pop, ((0, 0), ([], []))) := (kT_305 47).trans rfl
theorem r_305_48 : xT.1 305 48 = some (.aload_n 0, ((0, 0), ([], []))) := (kT_305 48).trans rfl
theorem r_305_49 : xT.1 305 49 = some (.iload_n 3, ((0, 0), ([], []))) := (kT_305 49).trans rfl
theorem r_305_50 : xT.1 305 50 = some (.putfield 79, ((10, 3), ([], [0]))) := (kT_305 50).trans rfl
theorem r_305_53 : xT.1 305 53 = some (.aload_n 0, ((0, 0), ([], []))) := (kT_305 53).trans rfl
theorem r_305_54 : xT.1 305 54 = some (.areturn, ((0, 0), ([], []))) := (kT_305 54).trans rfl
theorem kT_306 (pc : Nat) : xT.1 306 pc = xfind k_306 pc := rfl
theorem r_306_0 : xT.1 306 0 = some (.getstatic 18, ((0, 0), ([.int 1], []))) := (kT_306 0).trans rfl
theorem r_306_3 : xT.1 306 3 = some (.ifCond .eq 14, ((17, 0), ([], []))) := (kT_306 3).trans rfl
theorem r_306_6 : xT.1 306 6 = some (.aload_n 0, ((0, 0), ([], []))) := (kT_306 6).trans rfl
theorem r_306_7 : xT.1 306 7 = some (.getfield 22, ((10, 1), ([], []))) := (kT_306 7).trans rfl
theorem r_306_10 : xT.1 306 10 = some (.ifCond .ne 7, ((17, 0), ([], []))) := (kT_306 10).trans rfl
theorem r_306_13 : xT.1 306 13 = some (.iconst 1, ((0, 0), ([.int 1], []))) := (kT_306 13).trans rfl
theorem r_306_14 : xT.1 306 14 = some (.goto 4, ((18, 0), ([], []))) := (kT_306 14).trans rfl
theorem r_306_17 : xT.1 306 17 = some (.iconst 0, ((0, 0), ([.int 0], []))) := (kT_306 17).trans rfl
theorem r_306_18 : xT.1 306 18 = some (.ireturn, ((0, 0), ([], []))) := (kT_306 18).trans rfl
theorem kT_307 (pc : Nat) : xT.1 307 pc = xfind k_307 pc := rfl
theorem r_307_0 : xT.1 307 0 = some (.iload_n 1, ((0, 0), ([], []))) := (kT_307 0).trans rfl
theorem r_307_1 : xT.1 307 1 = some (.istore 5, ((0, 0), ([], []))) := (kT_307 1).trans rfl
theorem r_307_3 : xT.1 307 3 = some (.iload_n 0, ((0, 0), ([], []))) := (kT_307 3).trans rfl
theorem r_307_4 : xT.1 307 4 = some (.ifCond .ge 7, ((11, 0), ([], []))) := (kT_307 4).trans rfl
theorem r_307_7 : xT.1 307 7 = some (.iconst 1, ((0, 0), ([.int 1], []))) := (kT_307 7).trans rfl
theorem r_307_8 : xT.1 307 8 = some (.goto 4, ((12, 0), ([], []))) := (kT_307 8).trans rfl
theorem r_307_11 : xT.1 307 11 = some (.iconst 0, ((0, 0), ([.int 0], []))) := (kT_307 11).trans rfl
theorem r_307_12 : xT.1 307 12 = some (.istore 6, ((0, 0), ([], []))) := (kT_307 12).trans rfl
theorem r_307_14 : xT.1 307 14 = some (.iload 6, ((0, 0), ([], []))) := (kT_307 14).trans rfl
theorem r_307_16 : xT.1 307 16 = some (.ifCond .ne 6, ((22, 0), ([], []))) := (kT_307 16).trans rfl
theorem r_307_19 : xT.1 307 19 = some (.iload_n 0, ((0, 0), ([], []))) := (kT_307 19).trans rfl
theorem r_307_20 : xT.1 307 20 = some (.ineg, ((0, 0), ([], []))) := (kT_307 20).trans rfl
theorem r_307_21 : xT.1 307 21 = some (.istore_n 0, ((0, 0), ([], []))) := (kT_307 21).trans rfl
theorem r_307_22 : xT.1 307 22 = some (.iload_n 0, ((0, 0), ([], []))) := (kT_307 22).trans rfl
theorem r_307_23 : xT.1 307 23 = some (.bipush (-100), ((0, 0), ([.int (-100)], []))) := (kT_307 23).trans rfl
theorem r_307_25 : xT.1 307 25 = some (.if_icmp .gt 47, ((72, 0), ([], []))) := (kT_307 25).trans rfl
theorem r_307_28 : xT.1 307 28 = some (.iload_n 0, ((0, 0), ([], []))) := (kT_307 28).trans rfl
theorem r_307_29 : xT.1 307 29 = some (.bipush 100, ((0, 0), ([.int 100], []))) := (kT_307 29).trans rfl
theorem r_307_31 : xT.1 307 31 = some (.idiv, ((0, 0), ([], []))) := (kT_307 31).trans rfl
theorem r_307_32 : xT.1 307 32 = some (.istore_n 3, ((0, 0), ([], []))) := (kT_307 32).trans rfl
theorem r_307_33 : xT.1 307 33 = some (.iload_n 3, ((0, 0), ([], []))) := (kT_307 33).trans rfl
theorem r_307_34 : xT.1 307 34 = some (.bipush 100, ((0, 0), ([.int 100], []))) := (kT_307 34).trans rfl
theorem r_307_36 : xT.1 307 36 = some (.imul, ((0, 0), ([], []))) := (kT_307 36).trans rfl
theorem r_307_37 : xT.1 307 37 = some (.iload_n 0, ((0, 0), ([], []))) := (kT_307 37).trans rfl
theorem r_307_38 : xT.1 307 38 = some (.isub, ((0, 0), ([], []))) := (kT_307 38).trans rfl
theorem r_307_39 : xT.1 307 39 = some (.istore 4, ((0, 0), ([], []))) := (kT_307 39).trans rfl
theorem r_307_41 : xT.1 307 41 = some (.iload_n 3, ((0, 0), ([], []))) := (kT_307 41).trans rfl
theorem r_307_42 : xT.1 307 42 = some (.istore_n 0, ((0, 0), ([], []))) := (kT_307 42).trans rfl
theorem r_307_43 : xT.1 307 43 = some (.aload_n 2, ((0, 0), ([], []))) := (kT_307 43).trans rfl
theorem r_307_44 : xT.1 307 44 = some (.iinc 5 (-1), ((0, 0), ([.int (-1)], []))) := (kT_307 44).trans rfl
theorem r_307_47 : xT.1 307 47 = some (.iload 5, ((0, 0), ([], []))) := (kT_307 47).trans rfl
theorem r_307_49 : xT.1 307 49 = some (.getstatic 83, ((0, 0), ([.ref 22], []))) := (kT_307 49).trans rfl
theorem r_307_52 : xT.1 307 52 = some (.iload 4, ((0, 0), ([], []))) := (kT_307 52).trans rfl
theorem r_307_54 : xT.1 307 54 = some (.baload, ((0, 0), ([], []))) := (kT_307 54).trans rfl
theorem r_307_55 : xT.1 307 55 = some (.bastore, ((0, 0), ([], []))) := (kT_307 55).trans rfl
theorem r_307_56 : xT.1 307 56 = some (.aload_n 2, ((0, 0), ([], []))) := (kT_307 56).trans rfl
theorem r_307_57 : xT.1 307 57 = some (.iinc 5 (-1), ((0, 0), ([.int (-1)], []))) := (kT_307 57).trans rfl
theorem r_307_60 : xT.1 307 60 = some (.iload 5, ((0, 0), ([], []))) := (kT_307 60).trans rfl
theorem r_307_62 : xT.1 307 62 = some (.getstatic 87, ((0, 0), ([.ref 23], []))) := (kT_307 62).trans rfl
theorem r_307_65 : xT.1 307 65 = some (.iload 4, ((0, 0), ([], []))) := (kT_307 65).trans rfl
theorem r_307_67 : xT.1 307 67 = some (.baload, ((0, 0), ([], []))) := (kT_307 67).trans rfl
theorem r_307_68 : xT.1 307 68 = some (.bastore, ((0, 0), ([], []))) := (kT_307 68).trans rfl
theorem r_307_69 : xT.1 307 69 = some (.goto (-47), ((22, 0), ([], []))) := (kT_307 69).trans rfl
theorem r_307_72 : xT.1 307 72 = some (.aload_n 2, ((0, 0), ([], []))) := (kT_307 72).trans rfl
theorem r_307_73 : xT.1 307 73 = some (.iinc 5 (-1), ((0, 0), ([.int (-1)], []))) := (kT_307 73).trans rfl
theorem r_307_76 : xT.1 307 76 = some (.iload 5, ((0, 0), ([], []))) := (kT_307 76).trans rfl
theorem r_307_78 : xT.1 307 78 = some (.getstatic 83, ((0, 0), ([.ref 22], []))) := (kT_307 78).trans rfl
theorem r_307_81 : xT.1 307 81 = some (.iload_n 0, ((0, 0), ([], []))) := (kT_307 81).trans rfl
theorem r_307_82 : xT.1 307 82 = some (.ineg, ((0, 0), ([], []))) := (kT_307 82).trans rfl
theorem r_307_83 : xT.1 307 83 = some (.baload, ((0, 0), ([], []))) := (kT_307 83).trans rfl
theorem r_307_84 : xT.1 307 84 = some (.bastore, ((0, 0), ([], []))) := (kT_307 84).trans rfl
theorem r_307_85 : xT.1 307 85 = some (.iload_n 0, ((0, 0), ([], []))) := (kT_307 85).trans rfl
theorem r_307_86 : xT.1 307 86 = some (.bipush (-9), ((0, 0), ([.int (-9)], []))) := (kT_307 86).trans rfl
theorem r_307_88 : xT.1 307 88 = some (.if_icmp .ge 16, ((104, 0), ([], []))) := (kT_307 88).trans rfl
theorem r_307_91 : xT.1 307 91 = some (.aload_n 2, ((0, 0), ([], []))) := (kT_307 91).trans rfl
theorem r_307_92 : xT.1 307 92 = some (.iinc 5 (-1), ((0, 0), ([.int (-1)], []))) := (kT_307 92).trans rfl
theorem r_307_95 : xT.1 307 95 = some (.iload 5, ((0, 0), ([], []))) := (kT_307 95).trans rfl
theorem r_307_97 : xT.1 307 97 = some (.getstatic 87, ((0, 0), ([.ref 23], []))) := (kT_307 97).trans rfl
theorem r_307_100 : xT.1 307 100 = some (.iload_n 0, ((0, 0), ([], []))) := (kT_307 100).trans rfl
theorem r_307_101 : xT.1 307 101 = some (.ineg, ((0, 0), ([], []))) := (kT_307 101).trans rfl
theorem r_307_102 : xT.1 307 102 = some (.baload, ((0, 0), ([], []))) := (kT_307 102).trans rfl
theorem r_307_103 : xT.1 307 103 = some (.bastore, ((0, 0), ([], []))) := (kT_307 103).trans rfl
theorem r_307_104 : xT.1 307 104 = some (.iload 6, ((0, 0), ([], []))) := (kT_307 104).trans rfl
theorem r_307_106 : xT.1 307 106 = some (.ifCond .eq 12, ((118, 0), ([], []))) := (kT_307 106).trans rfl
theorem r_307_109 : xT.1 307 109 = some (.aload_n 2, ((0, 0), ([], []))) := (kT_307 109).trans rfl
theorem r_307_110 : xT.1 307 110 = some (.iinc 5 (-1), ((0, 0), ([.int (-1)], []))) := (kT_307 110).trans rfl
theorem r_307_113 : xT.1 307 113 = some (.iload 5, ((0, 0), ([], []))) := (kT_307 113).trans rfl
theorem r_307_115 : xT.1 307 115 = some (.bipush 45, ((0, 0), ([.int 45], []))) := (kT_307 115).trans rfl
theorem r_307_117 : xT.1 307 117 = some (.bastore, ((0, 0), ([], []))) := (kT_307 117).trans rfl
theorem r_307_118 : xT.1 307 118 = some (.iload 5, ((0, 0), ([], []))) := (kT_307 118).trans rfl
theorem r_307_120 : xT.1 307 120 = some (.ireturn, ((0, 0), ([], []))) := (kT_307 120).trans rfl
theorem kT_308 (pc : Nat) : xT.1 308 pc = xfind k_308 pc := rfl
theorem r_308_0 : xT.1 308 0 = some (.iconst 1, ((0, 0), ([.int 1], []))) := (kT_308 0).trans rfl
theorem r_308_1 : xT.1 308 1 = some (.istore_n 1, ((0, 0), ([], []))) := (kT_308 1).trans rfl
theorem r_308_2 : xT.1 308 2 = some (.iload_n 0, ((0, 0), ([], []))) := (kT_308 2).trans rfl
theorem r_308_3 : xT.1 308 3 = some (.ifCond .lt 8, ((11, 0), ([], []))) := (kT_308 3).trans rfl
theorem r_308_6 : xT.1 308 6 = some (.iconst 0, ((0, 0), ([.int 0], []))) := (kT_308 6).trans rfl
theorem r_308_7 : xT.1 308 7 = some (.istore_n 1, ((0, 0), ([], []))) := (kT_308 7).trans rfl
theorem r_308_8 : xT.1 308 8 = some (.iload_n 0, ((0, 0), ([], []))) := (kT_308 8).trans rfl
theorem r_308_9 : xT.1 308 9 = some (.ineg, ((0, 0), ([], []))) := (kT_308 9).trans rfl
theorem r_308_10 : xT.1 308 10 = some (.istore_n 0, ((0, 0), ([], []))) := (kT_308 10).trans rfl
theorem r_308_11 : xT.1 308 11 = some (.bipush (-10), ((0, 0), ([.int (-10)], []))) := (kT_308 11).trans rfl
theorem r_308_13 : xT.1 308 13 = some (.istore_n 2, ((0, 0), ([], []))) := (kT_308 13).trans rfl
theorem r_308_14 : xT.1 308 14 = some (.iconst 1, ((0, 0), ([.int 1], []))) := (kT_308 14).trans rfl
theorem r_308_15 : xT.1 308 15 = some (.istore_n 3, ((0, 0), ([], []))) := (kT_308 15).trans rfl
theorem r_308_16 : xT.1 308 16 = some (.iload_n 3, ((0, 0), ([], []))) := (kT_308 16).trans rfl
theorem r_308_17 : xT.1 308 17 = some (.bipush 10, ((0, 0), ([.int 10], []))) := (kT_308 17).trans rfl
theorem r_308_19 : xT.1 308 19 = some (.if_icmp .ge 23, ((42, 0), ([], []))) := (kT_308 19).trans rfl
theorem r_308_22 : xT.1 308 22 = some (.iload_n 0, ((0, 0), ([], []))) := (kT_308 22).trans rfl
theorem r_308_23 : xT.1 308 23 = some (.iload_n 2, ((0, 0), ([], []))) := (kT_308 23).trans rfl
theorem r_308_24 : xT.1 308 24 = some (.if_icmp .le 7, ((31, 0), ([], []))) := (kT_308 24).trans rfl
theorem r_308_27 : xT.1 308 27 = some (.iload_n 3, ((0, 0), ([], []))) := (kT_308 27).trans rfl
theorem r_308_28 : xT.1 308 28 = some (.iload_n 1, ((0, 0), ([], []))) := (kT_308 28).trans rfl
theorem r_308_29 : xT.1 308 29 = some (.iadd, ((0, 0), ([], []))) := (kT_308 29).trans rfl
theorem r_308_30 : xT.1 308 30 = some (.ireturn, ((0, 0), ([], []))) := (kT_308 30).trans rfl
theorem r_308_31 : xT.1 308 31 = some (.bipush 10, ((0, 0), ([.int 10], []))) := (kT_308 31).trans rfl
theorem r_308_33 : xT.1 308 33 = some (.iload_n 2, ((0, 0), ([], []))) := (kT_308 33).trans rfl
theorem r_308_34 : xT.1 308 34 = some (.imul, ((0, 0), ([], []))) := (kT_308 34).trans rfl
theorem r_308_35 : xT.1 308 35 = some (.istore_n 2, ((0, 0), ([], []))) := (kT_308 35).trans rfl
theorem r_308_36 : xT.1 308 36 = some (.iinc 3 1, ((0, 0), ([.int (1)], []))) := (kT_308 36).trans rfl
theorem r_308_39 : xT.1 308 39 = some (.goto (-23), ((16, 0), ([], []))) := (kT_308 39).trans rfl
theorem r_308_42 : xT.1 308 42 = some (.bipush 10, ((0, 0), ([.int 10], []))) := (kT_308 42).trans rfl
theorem r_308_44 : xT.1 308 44 = some (.iload_n 1, ((0, 0), ([], []))) := (kT_308 44).trans rfl
theorem r_308_45 : xT.1 308 45 = some (.iadd, ((0, 0), ([], []))) := (kT_308 45).trans rfl
theorem r_308_46 : xT.1 308 46 = some (.ireturn, ((0, 0), ([], []))) := (kT_308 46).trans rfl
theorem kT_309 (pc : Nat) : xT.1 309 pc = xfind k_309 pc := rfl
theorem r_309_0 : xT.1 309 0 = some (.iload_n 0, ((0, 0), ([], []))) := (kT_309 0).trans rfl
theorem r_309_1 : xT.1 309 1 = some (.sipush 255, ((0, 0), ([.int 255], []))) := (kT_309 1).trans rfl
theorem r_309_4 : xT.1 309 4 = some (.if_icmp .gt 7, ((11, 0), ([], []))) := (kT_309 4).trans rfl
theorem r_309_7 : xT.1 309 7 = some (.iconst 1, ((0, 0), ([.int 1], []))) := (kT_309 7).trans rfl
theorem r_309_8 : xT.1 309 8 = some (.goto 4, ((12, 0), ([], []))) := (kT_309 8).trans rfl
theorem r_309_11 : xT.1 309 11 = some (.iconst 0, ((0, 0), ([.int 0], []))) := (kT_309 11).trans rfl
theorem r_309_12 : xT.1 309 12 = some (.ireturn, ((0, 0), ([], []))) := (kT_309 12).trans rfl
theorem kT_310 (pc : Nat) : xT.1 310 pc = xfind k_310 pc := rfl
theorem r_310_0 : xT.1 310 0 = some (.iload_n 1, ((0, 0), ([], []))) := (kT_310 0).trans rfl
theorem r_310_1 : xT.1 310 1 = some (.aload_n 0, ((0, 0), ([], []))) := (kT_310 1).trans rfl
theorem r_310_2 : xT.1 310 2 = some (.arraylength, ((0, 0), ([], []))) := (kT_310 2).trans rfl
theorem r_310_3 : xT.1 310 3 = some (.if_icmp .ne 11, ((14, 0), ([], []))) := (kT_310 3).trans rfl
theorem r_310_6 : xT.1 310 6 = some (.aload_n 0, ((0, 0), ([], []))) := (kT_310 6).trans rfl
theorem r_310_13 : xT.1 310 13 = some (.areturn, ((0, 0), ([], []))) := (kT_310 13).trans rfl
theorem r_310_14 : xT.1 310 14 = some (.iload_n 1, ((0, 0), ([], []))) := (kT_310 14).trans rfl
theorem r_310_15 : xT.1 310 15 = some (.newarray .byte, ((0, 0), ([], []))) := (kT_310 15).trans rfl
theorem r_310_17 : xT.1 310 17 = some (.astore_n 2, ((0, 0), ([], []))) := (kT_310 17).trans rfl
theorem r_310_18 : xT.1 310 18 = some (.aload_n 0, ((0, 0), ([], []))) := (kT_310 18).trans rfl
theorem r_310_19 : xT.1 310 19 = some (.iconst 0, ((0, 0), ([.int 0], []))) := (kT_310 19).trans rfl
theorem r_310_20 : xT.1 310 20 = some (.aload_n 2, ((0, 0), ([], []))) := (kT_310 20).trans rfl
theorem r_310_21 : xT.1 310 21 = some (.iconst 0, ((0, 0), ([.int 0], []))) := (kT_310 21).trans rfl
theorem r_310_22 : xT.1 310 22 = some (.aload_n 0, ((0, 0), ([], []))) := (kT_310 22).trans rfl
theorem r_310_23 : xT.1 310 23 = some (.arraylength, ((0, 0), ([], []))) := (kT_310 23).trans rfl
theorem r_310_24 : xT.1 310 24 = some (.iload_n 1, ((0, 0), ([], []))) := (kT_310 24).trans rfl
theorem r_310_25 : xT.1 310 25 = some (.invokestatic 304, ((21, 2), ([], [4]))) := (kT_310 25).trans rfl
theorem r_310_28 : xT.1 310 28 = some (.invokestatic 150, ((0, 5), ([], [4]))) := (kT_310 28).trans rfl
theorem r_310_31 : xT.1 310 31 = some (.aload_n 2, ((0, 0), ([], []))) := (kT_310 31).trans rfl
theorem r_310_32 : xT.1 310 32 = some (.areturn, ((0, 0), ([], []))) := (kT_310 32).trans rfl
theorem kT_311 (pc : Nat) : xT.1 311 pc = xfind k_311 pc := rfl
theorem r_311_0 : xT.1 311 0 = some (.iload_n 0, ((0, 0), ([], []))) := (kT_311 0).trans rfl
theorem r_311_1 : xT.1 311 1 = some (.iload_n 1, ((0, 0), ([], []))) := (kT_311 1).trans rfl
theorem r_311_2 : xT.1 311 2 = some (.iload_n 2, ((0, 0), ([], []))) := (kT_311 2).trans rfl
theorem r_311_3 : xT.1 311 3 = some (.invokestatic 194, ((20, 2), ([], [4]))) := (kT_311 3).trans rfl
theorem r_311_6 : xT.1 311 6 = some (.iadd, ((0, 0), ([], []))) := (kT_311 6).trans rfl
theorem r_311_7 : xT.1 311 7 = some (.istore_n 3, ((0, 0), ([], []))) := (kT_311 7).trans rfl
theorem r_311_8 : xT.1 311 8 = some (.iconst 0, ((0, 0), ([.int 0], []))) := (kT_311 8).trans rfl
theorem r_311_9 : xT.1 311 9 = some (.iload_n 3, ((0, 0), ([], []))) := (kT_311 9).trans rfl
theorem r_311_10 : xT.1 311 10 = some (.if_icmp .ge 11, ((21, 0), ([], []))) := (kT_311 10).trans rfl
theorem r_311_13 : xT.1 311 13 = some (.iload_n 3, ((0, 0), ([], []))) := (kT_311 13).trans rfl
theorem r_311_14 : xT.1 311 14 = some (.ldc 200, ((0, 0), ([.int (2147483639)], []))) := (kT_311 14).trans rfl
theorem r_311_16 : xT.1 311 16 = some (.if_icmp .gt 5, ((21, 0), ([], []))) := (kT_311 16).trans rfl
theorem r_311_19 : xT.1 311 19 = some (.iload_n 3, ((0, 0), ([], []))) := (kT_311 19).trans rfl
theorem r_311_20 : xT.1 311 20 = some (.ireturn, ((0, 0), ([], []))) := (kT_311 20).trans rfl
theorem r_311_21 : xT.1 311 21 = some (.iload_n 0, ((0, 0), ([], []))) := (kT_311 21).trans rfl
theorem r_311_22 : xT.1 311 22 = some (.iload_n 1, ((0, 0), ([], []))) := (kT_311 22).trans rfl
theorem r_311_26 : xT.1 311 26 = some (.ireturn, ((0, 0), ([], []))) := (kT_311 26).trans rfl
theorem kT_312 (pc : Nat) : xT.1 312 pc = xfind k_312 pc := rfl
theorem r_312_0 : xT.1 312 0 = some (.aload_n 0, ((0, 0), ([], []))) := (kT_312 0).trans rfl
theorem r_312_1 : xT.1 312 1 = some (.getfield 9, ((12, 1), ([], [4]))) := (kT_312 1).trans rfl
theorem r_312_4 : xT.1 312 4 = some (.arraylength, ((0, 0), ([], []))) := (kT_312 4).trans rfl
theorem r_312_5 : xT.1 312 5 = some (.aload_n 0, ((0, 0), ([], []))) := (kT_312 5).trans rfl
theorem r_312_6 : xT.1 312 6 = some (.invokevirtual 335, ((314, 1), ([], [0]))) := (kT_312 6).trans rfl
theorem r_312_9 : xT.1 312 9 = some (.ishr, ((0, 0), ([], []))) := (kT_312 9).trans rfl
theorem r_312_10 : xT.1 312 10 = some (.ireturn, ((0, 0), ([], []))) := (kT_312 10).trans rfl
theorem kT_313 (pc : Nat) : xT.1 313 pc = xfind k_313 pc := rfl
theorem r_313_0 : xT.1 313 0 = some (.aload_n 0, ((0, 0), ([], []))) := (kT_313 0).trans rfl
theorem r_313_1 : xT.1 313 1 = some (.invokevirtual 492, ((315, 1), ([], [0]))) := (kT_313 1).trans rfl
theorem r_313_4 : xT.1 313 4 = some (.ifCond .eq 12, ((16, 0), ([], []))) := (kT_313 4).trans rfl
theorem r_313_7 : xT.1 313 7 = some (.aload_n 0, ((0, 0), ([], []))) := (kT_313 7).trans rfl
theorem r_313_8 : xT.1 313 8 = some (.getfield 9, ((12, 1), ([], [4]))) := (kT_313 8).trans rfl
theorem r_313_11 : xT.1 313 11 = some (.iload_n 1, ((0, 0), ([], []))) := (kT_313 11).trans rfl
theorem r_313_12 : xT.1 313 12 = some (.invokestatic 495, ((316, 2), ([], [1]))) := (kT_313 12).trans rfl
theorem r_313_15 : xT.1 313 15 = some (.ireturn, ((0, 0), ([], []))) := (kT_313 15).trans rfl
theorem r_313_16 : xT.1 313 16 = some (.aload_n 0, ((0, 0), ([], []))) := (kT_313 16).trans rfl
theorem r_313_17 : xT.1 313 17 = some (.getfield 9, ((12, 1), ([], [4]))) := (kT_313 17).trans rfl
theorem r_313_20 : xT.1 313 20 = some (.iload_n 1, ((0, 0), ([], []))) := (kT_313 20).trans rfl
theorem r_313_24 : xT.1 313 24 = some (.ireturn, ((0, 0), ([], []))) := (kT_313 24).trans rfl
theorem kT_314 (pc : Nat) : xT.1 314 pc = xfind k_314 pc := rfl
theorem r_314_0 : xT.1 314 0 = some (.getstatic 38, ((0, 0), ([.int 1], []))) := (kT_314 0).trans rfl
theorem r_314_3 : xT.1 314 3 = some (.ifCond .eq 10, ((13, 0), ([], []))) := (kT_314 3).trans rfl
theorem r_314_6 : xT.1 314 6 = some (.aload_n 0, ((0, 0), ([], []))) := (kT_314 6).trans rfl
theorem r_314_7 : xT.1 314 7 = some (.getfield 15, ((13, 1), ([], [4]))) := (kT_314 7).trans rfl
theorem r_314_10 : xT.1 314 10 = some (.goto 4, ((14, 0), ([], []))) := (kT_314 10).trans rfl
theorem r_314_13 : xT.1 314 13 = some (.iconst 1, ((0, 0), ([.int 1], []))) := (kT_314 13).trans rfl
theorem r_314_14 : xT.1 314 14 = some (.ireturn, ((0, 0), ([], []))) := (kT_314 14).trans rfl
