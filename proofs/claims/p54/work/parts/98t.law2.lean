/-! the law: texts that fail -/
section S3
variable {S : XSc} {d b bz : Nat} {h : XH} {F Fy : Nat → Prop} {Q : XO → XH → Prop} {G H Sv : Nat → Int32} {ch : Nat} {Bu : Nat → Int32}
theorem lw_s3b0  {nw : Int32} (hw : nw = Dg G) (A : AtC h b F (Ca 225 G H G ch true (-1) (-1) 25 (putB Bu (xfB 6) 25))) (L : Lo h) (C : h.2.2.1 ≤ 1990 ∧ h.2.2.2 ≤ 11416) (h2g : noG G = 0) (k : ∀ h2 F2 B2 H2 ch2 ea2 fa2 Bu2, AtC h2 b F2 (Ca B2 G H2 G ch2 true ea2 fa2 0 Bu2) → B2 ≤ 240 → Lo h2 → (h2.2.2.1 ≤ 5000 ∧ h2.2.2.2 ≤ 30000) → yP S (d + 10) 286 170 [(0, .ref 12), (1, .ref b), (3, .int (G 1)), (4, .int nw)] [] h2 Q) : yP S (d + 10) 286 27 [(0, .ref 12), (1, .ref b), (3, .int (G 1)), (4, .int nw)] [] h Q := by
  obtain ⟨gs, o0⟩ := A.cell (fun c z => z.o)
  have g := A.gd.1
  have g1 := g.2.1.1
  have g6 := g.2.1.2
  have g5 := g.1.2
  have hR : ∀ c nu, (ctC (putB Bu (xfB 6) 25) 25 60 1 0 c nu).1 = some 3 ∧ (exC (putB Bu (xfB 6) 25) 25 3 0 0 (ctC (putB Bu (xfB 6) 25) 25 60 1 0 c nu).2.2.1 (ctC (putB Bu (xfB 6) 25) 25 60 1 0 c nu).2.2.2 G).1 = some 0 := fun c nu => by
    have e := t6_few (G := G) (by omega) Bu c nu
    rw [h2g] at e
    exact e
  refine ys_f 28 r_286_27 rfl ?_
  refine ys_f 29 r_286_28 rfl ?_
  refine ys_if 134 32 r_286_29 rfl (fun h29 => ?_) (fun h29 => ?_)
  · have h29 := (nI_leN g1 (nI_k 1) (by omega) (by omega)).mp h29
    refine ys_f 135 r_286_134 rfl ?_
    refine ys_call (lv2 := [(0, _)]) r_286_135 rfl rfl (by decide) (xcan_3 rfl rfl) rfl (yP_up (show d + 8 ≤ d + 9 by omega) (la_168B A (by omega) hR (fun h21 F21 A21 M21 => ?_)))
    have C21 := MvC.cost M21 C.1 C.2
    have L21 := L.mv M21 A.ge
    obtain ⟨gs21, o21⟩ := A21.cell (fun c z => z.o)
    refine yK_v rfl ?_
    refine ys_f 140 r_286_138 rfl ?_
    refine ys_f 143 r_286_140 rfl ?_
    refine ys_f 144 r_286_143 rfl ?_
    refine ys_call (lv2 := [(0, _)]) r_286_144 rfl rfl (by decide) (xcan_0 rfl rfl (by first | assumption) (by rfl)) rfl (yP_up (show d + 7 ≤ d + 9 by omega) (qa_128 A21 (nI_m1 rfl (by omega)) (fun h22 F22 A22 M22 => ?_)))
    have C22 := MvC.cost M22 C21.1 C21.2
    have L22 := L21.mv M22 A21.ge
    obtain ⟨gs22, o22⟩ := A22.cell (fun c z => z.o)
    refine yK_v rfl ?_
    refine ys_f 148 r_286_147 rfl ?_
    refine ys_if 151 155 r_286_148 rfl (fun h48 => ?_) (fun h48 => ?_)
    · have h48 := (nI_eqN g1 (nI_k 0) (by omega) (by omega)).mp h48
      refine ys_f 152 r_286_151 rfl ?_
      refine ys_f 156 r_286_152 rfl ?_
      refine ys_f 159 r_286_156 rfl ?_
      refine ys_f 160 r_286_159 rfl ?_
      refine ys_call (lv2 := [(0, _)]) r_286_160 rfl rfl (by decide) (xcan_1 rfl) rfl (lb_165 A22  (fun v23 e23 h23 F23 A23 M23 => ?_))
      have C23 := MvC.cost M23 C22.1 C22.2
      have L23 := L22.mv M23 A22.ge
      obtain ⟨gs23, o23⟩ := A23.cell (fun c z => z.o)
      refine yK_v rfl ?_
      refine ys_f 165 r_286_163 rfl ?_
      refine ys_if 170 168 r_286_165 rfl (fun hq => ?_) (fun hq => ?_)
      · exact yP_lv [(0, .ref 12), (1, .ref b), (3, .int (G 1)), (4, .int nw)] rfl ⟨rfl, rfl, rfl, rfl, trivial⟩ (k _ _ _ _ _ _ _ _ A23 (by omega) L23 ⟨by omega, by omega⟩)
      · exact (hq (e23.trans hw.symm)).elim
    · have h48 := mt (nI_eqN g1 (nI_k 0) (by omega) (by omega)).mpr h48
      exfalso; omega
  · have h29 := mt (nI_leN g1 (nI_k 1) (by omega) (by omega)).mpr h29
    exfalso; omega

theorem lw_s3b1  {nw : Int32} (hw : nw = Dg G) (A : AtC h b F (Ca 225 G H G ch true (-1) (-1) 25 (putB Bu (xfB 6) 25))) (L : Lo h) (C : h.2.2.1 ≤ 1990 ∧ h.2.2.2 ≤ 11416) (h2g : noG G = 1) (k : ∀ h2 F2 B2 H2 ch2 ea2 fa2 Bu2, AtC h2 b F2 (Ca B2 G H2 G ch2 true ea2 fa2 0 Bu2) → B2 ≤ 240 → Lo h2 → (h2.2.2.1 ≤ 5000 ∧ h2.2.2.2 ≤ 30000) → yP S (d + 10) 286 170 [(0, .ref 12), (1, .ref b), (3, .int (G 1)), (4, .int nw)] [] h2 Q) : yP S (d + 10) 286 27 [(0, .ref 12), (1, .ref b), (3, .int (G 1)), (4, .int nw)] [] h Q := by
  obtain ⟨gs, o0⟩ := A.cell (fun c z => z.o)
  have g := A.gd.1
  have g1 := g.2.1.1
  have g6 := g.2.1.2
  have g5 := g.1.2
  have hR : ∀ c nu, (ctC (putB Bu (xfB 6) 25) 25 60 1 0 c nu).1 = some 3 ∧ (exC (putB Bu (xfB 6) 25) 25 3 0 0 (ctC (putB Bu (xfB 6) 25) 25 60 1 0 c nu).2.2.1 (ctC (putB Bu (xfB 6) 25) 25 60 1 0 c nu).2.2.2 G).1 = some 2 := fun c nu => by
    have e := t6_few (G := G) (by omega) Bu c nu
    rw [h2g] at e
    exact e
  refine ys_f 28 r_286_27 rfl ?_
  refine ys_f 29 r_286_28 rfl ?_
  refine ys_if 134 32 r_286_29 rfl (fun h29 => ?_) (fun h29 => ?_)
  · have h29 := (nI_leN g1 (nI_k 1) (by omega) (by omega)).mp h29
    refine ys_f 135 r_286_134 rfl ?_
    refine ys_call (lv2 := [(0, _)]) r_286_135 rfl rfl (by decide) (xcan_3 rfl rfl) rfl (yP_up (show d + 8 ≤ d + 9 by omega) (la_168B A (by omega) hR (fun h21 F21 A21 M21 => ?_)))
    have C21 := MvC.cost M21 C.1 C.2
    have L21 := L.mv M21 A.ge
    obtain ⟨gs21, o21⟩ := A21.cell (fun c z => z.o)
    refine yK_v rfl ?_
    refine ys_f 140 r_286_138 rfl ?_
    refine ys_f 143 r_286_140 rfl ?_
    refine ys_f 144 r_286_143 rfl ?_
    refine ys_call (lv2 := [(0, _)]) r_286_144 rfl rfl (by decide) (xcan_0 rfl rfl (by first | assumption) (by rfl)) rfl (yP_up (show d + 7 ≤ d + 9 by omega) (qa_128 A21 (nI_m1 rfl (by omega)) (fun h22 F22 A22 M22 => ?_)))
    have C22 := MvC.cost M22 C21.1 C21.2
    have L22 := L21.mv M22 A21.ge
    obtain ⟨gs22, o22⟩ := A22.cell (fun c z => z.o)
    refine yK_v rfl ?_
    refine ys_f 148 r_286_147 rfl ?_
    refine ys_if 151 155 r_286_148 rfl (fun h48 => ?_) (fun h48 => ?_)
    · have h48 := (nI_eqN g1 (nI_k 0) (by omega) (by omega)).mp h48
      exfalso; omega
    · have h48 := mt (nI_eqN g1 (nI_k 0) (by omega) (by omega)).mpr h48
      refine ys_f 156 r_286_155 rfl ?_
      refine ys_f 159 r_286_156 rfl ?_
      refine ys_f 160 r_286_159 rfl ?_
      refine ys_call (lv2 := [(0, _)]) r_286_160 rfl rfl (by decide) (xcan_1 rfl) rfl (lb_165 A22  (fun v23 e23 h23 F23 A23 M23 => ?_))
      have C23 := MvC.cost M23 C22.1 C22.2
      have L23 := L22.mv M23 A22.ge
      obtain ⟨gs23, o23⟩ := A23.cell (fun c z => z.o)
      refine yK_v rfl ?_
      refine ys_f 165 r_286_163 rfl ?_
      refine ys_if 170 168 r_286_165 rfl (fun hq => ?_) (fun hq => ?_)
      · exact yP_lv [(0, .ref 12), (1, .ref b), (3, .int (G 1)), (4, .int nw)] rfl ⟨rfl, rfl, rfl, rfl, trivial⟩ (k _ _ _ _ _ _ _ _ A23 (by omega) L23 ⟨by omega, by omega⟩)
      · exact (hq (e23.trans hw.symm)).elim
  · have h29 := mt (nI_leN g1 (nI_k 1) (by omega) (by omega)).mpr h29
    exfalso; omega

theorem lw_s4  {nw : Int32} {B : Nat} {ea fa : Int32} (hw : nw = Dg G) (hB : B ≤ 240) (A : AtC h b F (Ca B G H Sv ch true ea fa 0 Bu)) (L : Lo h) (C : h.2.2.1 ≤ 5000 ∧ h.2.2.2 ≤ 30000) (k : ∀ h2 F2 B2 ea2 fa2 Bu2, AtC h2 b F2 (Ca B2 G H Sv ch true ea2 fa2 0 Bu2) → B2 ≤ 250 → Lo h2 → (h2.2.2.1 ≤ 5100 ∧ h2.2.2.2 ≤ 31000) → yP S (d + 10) 286 203 [(0, .ref 12), (1, .ref b), (3, .int (G 1)), (4, .int nw)] [] h2 Q) : yP S (d + 10) 286 170 [(0, .ref 12), (1, .ref b), (3, .int (G 1)), (4, .int nw)] [] h Q := by
  obtain ⟨gs, o0⟩ := A.cell (fun c z => z.o)
  have g := A.gd.1
  have g1 := g.2.1.1
  have g6 := g.2.1.2
  have g5 := g.1.2
  
  refine ys_f 171 r_286_170 rfl ?_
  refine ys_ldc 173 r_286_171 rfl ?_
  refine ys_call (lv2 := [(0, _), (1, _)]) r_286_173 rfl rfl (by decide) (xcan_1 rfl) rfl (yP_up (show d + 8 ≤ d + 9 by omega) (la_161 stA_7 (by omega) A  (fun h21 F21 A21 M21 => ?_)))
  have C21 := MvC.cost M21 C.1 C.2
  have L21 := L.mv M21 A.ge
  obtain ⟨gs21, o21⟩ := A21.cell (fun c z => z.o)
  refine yK_0 rfl ?_
  refine ys_f 177 r_286_176 rfl ?_
  refine ys_call (lv2 := [(0, _)]) r_286_177 rfl rfl (by decide) (xcan_3 rfl rfl) rfl (yP_up (show d + 8 ≤ d + 9 by omega) (la_168B A21 (by omega) (t7_all g5 Bu) (fun h22 F22 A22 M22 => ?_)))
  have C22 := MvC.cost M22 C21.1 C21.2
  have L22 := L21.mv M22 A21.ge
  obtain ⟨gs22, o22⟩ := A22.cell (fun c z => z.o)
  refine yK_v rfl ?_
  refine ys_f 182 r_286_180 rfl ?_
  refine ys_f 185 r_286_182 rfl ?_
  refine ys_f 186 r_286_185 rfl ?_
  refine ys_call (lv2 := [(0, _)]) r_286_186 rfl rfl (by decide) (xcan_0 rfl rfl (by first | assumption) (by rfl)) rfl (yP_up (show d + 7 ≤ d + 9 by omega) (qa_128 A22 (nI_m1 rfl (by omega)) (fun h23 F23 A23 M23 => ?_)))
  have C23 := MvC.cost M23 C22.1 C22.2
  have L23 := L22.mv M23 A22.ge
  obtain ⟨gs23, o23⟩ := A23.cell (fun c z => z.o)
  refine yK_v rfl ?_
  refine ys_f 192 r_286_189 rfl ?_
  refine ys_f 193 r_286_192 rfl ?_
  refine ys_call (lv2 := [(0, _)]) r_286_193 rfl rfl (by decide) (xcan_1 rfl) rfl (lb_165 A23  (fun v24 e24 h24 F24 A24 M24 => ?_))
  have C24 := MvC.cost M24 C23.1 C23.2
  have L24 := L23.mv M24 A23.ge
  obtain ⟨gs24, o24⟩ := A24.cell (fun c z => z.o)
  refine yK_v rfl ?_
  refine ys_f 198 r_286_196 rfl ?_
  refine ys_if 203 201 r_286_198 rfl (fun hq => ?_) (fun hq => ?_)
  · exact yP_lv [(0, .ref 12), (1, .ref b), (3, .int (G 1)), (4, .int nw)] rfl ⟨rfl, rfl, rfl, rfl, trivial⟩ (k _ _ _ _ _ _ A24 (by omega) L24 ⟨by omega, by omega⟩)
  · exact (hq (e24.trans hw.symm)).elim

theorem lw_s5  {nw : Int32} {B : Nat} {ea fa : Int32} (hw : nw = Dg G) (hB : B ≤ 250) (A : AtC h b F (Ca B G H Sv ch true ea fa 0 Bu)) (L : Lo h) (C : h.2.2.1 ≤ 5100 ∧ h.2.2.2 ≤ 31000) (k : ∀ h2 F2 B2 ea2 Bu2, AtC h2 b F2 (Ca B2 G H Sv ch true ea2 (nI 0) 0 Bu2) → B2 ≤ 270 → Lo h2 → (h2.2.2.1 ≤ 5200 ∧ h2.2.2.2 ≤ 32000) → yP S (d + 10) 286 236 [(0, .ref 12), (1, .ref b), (3, .int (G 1)), (4, .int nw)] [] h2 Q) : yP S (d + 10) 286 203 [(0, .ref 12), (1, .ref b), (3, .int (G 1)), (4, .int nw)] [] h Q := by
  obtain ⟨gs, o0⟩ := A.cell (fun c z => z.o)
  have g := A.gd.1
  have g1 := g.2.1.1
  have g6 := g.2.1.2
  have g5 := g.1.2
  
  refine ys_f 204 r_286_203 rfl ?_
  refine ys_ldc 206 r_286_204 rfl ?_
  refine ys_call (lv2 := [(0, _), (1, _)]) r_286_206 rfl rfl (by decide) (xcan_1 rfl) rfl (yP_up (show d + 8 ≤ d + 9 by omega) (la_161 stA_8 (by omega) A  (fun h21 F21 A21 M21 => ?_)))
  have C21 := MvC.cost M21 C.1 C.2
  have L21 := L.mv M21 A.ge
  obtain ⟨gs21, o21⟩ := A21.cell (fun c z => z.o)
  refine yK_0 rfl ?_
  refine ys_f 210 r_286_209 rfl ?_
  refine ys_call (lv2 := [(0, _)]) r_286_210 rfl rfl (by decide) (xcan_3 rfl rfl) rfl (yP_up (show d + 8 ≤ d + 9 by omega) (la_168B A21 (by omega) (t8_all g5 Bu) (fun h22 F22 A22 M22 => ?_)))
  have C22 := MvC.cost M22 C21.1 C21.2
  have L22 := L21.mv M22 A21.ge
  obtain ⟨gs22, o22⟩ := A22.cell (fun c z => z.o)
  refine yK_v rfl ?_
  refine ys_f 215 r_286_213 rfl ?_
  refine ys_f 218 r_286_215 rfl ?_
  refine ys_f 219 r_286_218 rfl ?_
  refine ys_call (lv2 := [(0, _)]) r_286_219 rfl rfl (by decide) (xcan_0 rfl rfl (by first | assumption) (by rfl)) rfl (yP_up (show d + 7 ≤ d + 9 by omega) (qa_128 A22 (nI_m1 rfl (by omega)) (fun h23 F23 A23 M23 => ?_)))
  have C23 := MvC.cost M23 C22.1 C22.2
  have L23 := L22.mv M23 A22.ge
  obtain ⟨gs23, o23⟩ := A23.cell (fun c z => z.o)
  refine yK_v rfl ?_
  refine ys_f 225 r_286_222 rfl ?_
  refine ys_f 226 r_286_225 rfl ?_
  refine ys_call (lv2 := [(0, _)]) r_286_226 rfl rfl (by decide) (xcan_1 rfl) rfl (lb_165 A23  (fun v24 e24 h24 F24 A24 M24 => ?_))
  have C24 := MvC.cost M24 C23.1 C23.2
  have L24 := L23.mv M24 A23.ge
  obtain ⟨gs24, o24⟩ := A24.cell (fun c z => z.o)
  refine yK_v rfl ?_
  refine ys_f 231 r_286_229 rfl ?_
  refine ys_if 236 234 r_286_231 rfl (fun hq => ?_) (fun hq => ?_)
  · exact yP_lv [(0, .ref 12), (1, .ref b), (3, .int (G 1)), (4, .int nw)] rfl ⟨rfl, rfl, rfl, rfl, trivial⟩ (k _ _ _ _ _ A24 (by omega) L24 ⟨by omega, by omega⟩)
  · exact (hq (e24.trans hw.symm)).elim

theorem lw_s6  {nw : Int32} {B : Nat} {ea : Int32} (hw : nw = Dg G) (hB : B ≤ 270) (A : AtC h b F (Ca B G H Sv ch true ea (nI 0) 0 Bu)) (L : Lo h) (C : h.2.2.1 ≤ 5200 ∧ h.2.2.2 ≤ 32000) (k : ∀ h2 F2 B2 ea2 fa2 Bu2, AtC h2 b F2 (Ca B2 G H Sv ch true ea2 fa2 0 Bu2) → B2 ≤ 400 → Lo h2 → (h2.2.2.1 ≤ 5500 ∧ h2.2.2.2 ≤ 34000) → yP S (d + 10) 286 371 [(0, .ref 12), (1, .ref b), (3, .int (G 1)), (4, .int nw)] [] h2 Q) : yP S (d + 10) 286 236 [(0, .ref 12), (1, .ref b), (3, .int (G 1)), (4, .int nw)] [] h Q := by
  obtain ⟨gs, o0⟩ := A.cell (fun c z => z.o)
  have g := A.gd.1
  have g1 := g.2.1.1
  have g6 := g.2.1.2
  have g5 := g.1.2
  
  refine ys_f 237 r_286_236 rfl ?_
  refine ys_ldc 239 r_286_237 rfl ?_
  refine ys_f 240 r_286_239 rfl ?_
  refine ys_call (lv2 := [(0, _), (1, _), (2, _)]) r_286_240 rfl rfl (by decide) (xcan_1 rfl) rfl (yP_lv [(0, .ref b), (1, .ref 35), (2, .int (nI 1))] rfl ⟨rfl, rfl, (congrArg (fun z => some (Value.int z)) (nI_k 1)), trivial⟩ (la_169 stA_9 (by omega) (by omega) bad_9 A (fun h21 F21 Bu21 A21 M21 => ?_)))
  have C21 := MvC.cost M21 C.1 C.2
  have L21 := L.mv M21 A.ge
  obtain ⟨gs21, o21⟩ := A21.cell (fun c z => z.o)
  refine yK_v rfl ?_
  refine ys_f 246 r_286_243 rfl ?_
  refine ys_f 247 r_286_246 rfl ?_
  refine ys_ldc 249 r_286_247 rfl ?_
  refine ys_f 250 r_286_249 rfl ?_
  refine ys_call (lv2 := [(0, _), (1, _), (2, _)]) r_286_250 rfl rfl (by decide) (xcan_1 rfl) rfl (yP_lv [(0, .ref b), (1, .ref 36), (2, .int (nI 1))] rfl ⟨rfl, rfl, (congrArg (fun z => some (Value.int z)) (nI_k 1)), trivial⟩ (la_169 stA_10 (by omega) (by omega) bad_10 A21 (fun h22 F22 Bu22 A22 M22 => ?_)))
  have C22 := MvC.cost M22 C21.1 C21.2
  have L22 := L21.mv M22 A21.ge
  obtain ⟨gs22, o22⟩ := A22.cell (fun c z => z.o)
  refine yK_v rfl ?_
  refine ys_f 256 r_286_253 rfl ?_
  refine ys_f 257 r_286_256 rfl ?_
  refine ys_ldc 259 r_286_257 rfl ?_
  refine ys_f 261 r_286_259 rfl ?_
  refine ys_call (lv2 := [(0, _), (1, _), (2, _)]) r_286_261 rfl rfl (by decide) (xcan_1 rfl) rfl (yP_lv [(0, .ref b), (1, .ref 37), (2, .int (nI 9))] rfl ⟨rfl, rfl, (congrArg (fun z => some (Value.int z)) (nI_k 9)), trivial⟩ (la_169 stA_11 (by omega) (by omega) bad_11 A22 (fun h23 F23 Bu23 A23 M23 => ?_)))
  have C23 := MvC.cost M23 C22.1 C22.2
  have L23 := L22.mv M23 A22.ge
  obtain ⟨gs23, o23⟩ := A23.cell (fun c z => z.o)
  refine yK_v rfl ?_
  refine ys_f 267 r_286_264 rfl ?_
  refine ys_f 268 r_286_267 rfl ?_
  refine ys_ldc 270 r_286_268 rfl ?_
  refine ys_f 272 r_286_270 rfl ?_
  refine ys_call (lv2 := [(0, _), (1, _), (2, _)]) r_286_272 rfl rfl (by decide) (xcan_1 rfl) rfl (yP_lv [(0, .ref b), (1, .ref 38), (2, .int (nI 8))] rfl ⟨rfl, rfl, (congrArg (fun z => some (Value.int z)) (nI_k 8)), trivial⟩ (la_169 stA_12 (by omega) (by omega) bad_12 A23 (fun h24 F24 Bu24 A24 M24 => ?_)))
  have C24 := MvC.cost M24 C23.1 C23.2
  have L24 := L23.mv M24 A23.ge
  obtain ⟨gs24, o24⟩ := A24.cell (fun c z => z.o)
  refine yK_v rfl ?_
  refine ys_f 278 r_286_275 rfl ?_
  refine ys_f 279 r_286_278 rfl ?_
  refine ys_ldc 281 r_286_279 rfl ?_
  refine ys_f 283 r_286_281 rfl ?_
  refine ys_call (lv2 := [(0, _), (1, _), (2, _)]) r_286_283 rfl rfl (by decide) (xcan_1 rfl) rfl (yP_lv [(0, .ref b), (1, .ref 39), (2, .int (nI 6))] rfl ⟨rfl, rfl, (congrArg (fun z => some (Value.int z)) (nI_k 6)), trivial⟩ (la_169 stA_13 (by omega) (by omega) bad_13 A24 (fun h25 F25 Bu25 A25 M25 => ?_)))
  have C25 := MvC.cost M25 C24.1 C24.2
  have L25 := L24.mv M25 A24.ge
  obtain ⟨gs25, o25⟩ := A25.cell (fun c z => z.o)
  refine yK_v rfl ?_
  refine ys_f 289 r_286_286 rfl ?_
  refine ys_f 290 r_286_289 rfl ?_
  refine ys_ldc 292 r_286_290 rfl ?_
  refine ys_f 294 r_286_292 rfl ?_
  refine ys_call (lv2 := [(0, _), (1, _), (2, _)]) r_286_294 rfl rfl (by decide) (xcan_1 rfl) rfl (yP_lv [(0, .ref b), (1, .ref 40), (2, .int (nI 6))] rfl ⟨rfl, rfl, (congrArg (fun z => some (Value.int z)) (nI_k 6)), trivial⟩ (la_169 stA_14 (by omega) (by omega) bad_14 A25 (fun h26 F26 Bu26 A26 M26 => ?_)))
  have C26 := MvC.cost M26 C25.1 C25.2
  have L26 := L25.mv M26 A25.ge
  obtain ⟨gs26, o26⟩ := A26.cell (fun c z => z.o)
  refine yK_v rfl ?_
  refine ys_f 300 r_286_297 rfl ?_
  refine ys_f 301 r_286_300 rfl ?_
  refine ys_ldc 303 r_286_301 rfl ?_
  refine ys_f 304 r_286_303 rfl ?_
  refine ys_call (lv2 := [(0, _), (1, _), (2, _)]) r_286_304 rfl rfl (by decide) (xcan_1 rfl) rfl (yP_lv [(0, .ref b), (1, .ref 41), (2, .int (nI 0))] rfl ⟨rfl, rfl, (congrArg (fun z => some (Value.int z)) (nI_k 0)), trivial⟩ (la_169 stA_15 (by omega) (by omega) bad_15 A26 (fun h27 F27 Bu27 A27 M27 => ?_)))
  have C27 := MvC.cost M27 C26.1 C26.2
  have L27 := L26.mv M27 A26.ge
  obtain ⟨gs27, o27⟩ := A27.cell (fun c z => z.o)
  refine yK_v rfl ?_
  refine ys_f 310 r_286_307 rfl ?_
  refine ys_f 311 r_286_310 rfl ?_
  refine ys_ldc 313 r_286_311 rfl ?_
  refine ys_f 315 r_286_313 rfl ?_
  refine ys_call (lv2 := [(0, _), (1, _), (2, _)]) r_286_315 rfl rfl (by decide) (xcan_1 rfl) rfl (yP_lv [(0, .ref b), (1, .ref 42), (2, .int (nI 6))] rfl ⟨rfl, rfl, (congrArg (fun z => some (Value.int z)) (nI_k 6)), trivial⟩ (la_169 stA_16 (by omega) (by omega) bad_16 A27 (fun h28 F28 Bu28 A28 M28 => ?_)))
  have C28 := MvC.cost M28 C27.1 C27.2
  have L28 := L27.mv M28 A27.ge
  obtain ⟨gs28, o28⟩ := A28.cell (fun c z => z.o)
  refine yK_v rfl ?_
  refine ys_f 321 r_286_318 rfl ?_
  refine ys_f 322 r_286_321 rfl ?_
  refine ys_ldc 324 r_286_322 rfl ?_
  refine ys_f 326 r_286_324 rfl ?_
  refine ys_call (lv2 := [(0, _), (1, _), (2, _)]) r_286_326 rfl rfl (by decide) (xcan_1 rfl) rfl (yP_lv [(0, .ref b), (1, .ref 43), (2, .int (nI 10))] rfl ⟨rfl, rfl, (congrArg (fun z => some (Value.int z)) (nI_k 10)), trivial⟩ (la_169 stA_17 (by omega) (by omega) bad_17 A28 (fun h29 F29 Bu29 A29 M29 => ?_)))
  have C29 := MvC.cost M29 C28.1 C28.2
  have L29 := L28.mv M29 A28.ge
  obtain ⟨gs29, o29⟩ := A29.cell (fun c z => z.o)
  refine yK_v rfl ?_
  refine ys_f 332 r_286_329 rfl ?_
  refine ys_f 333 r_286_332 rfl ?_
  refine ys_ldc 335 r_286_333 rfl ?_
  refine ys_f 337 r_286_335 rfl ?_
  refine ys_call (lv2 := [(0, _), (1, _), (2, _)]) r_286_337 rfl rfl (by decide) (xcan_1 rfl) rfl (yP_lv [(0, .ref b), (1, .ref 44), (2, .int (nI 16))] rfl ⟨rfl, rfl, (congrArg (fun z => some (Value.int z)) (nI_k 16)), trivial⟩ (la_169 stA_18 (by omega) (by omega) bad_18 A29 (fun h30 F30 Bu30 A30 M30 => ?_)))
  have C30 := MvC.cost M30 C29.1 C29.2
  have L30 := L29.mv M30 A29.ge
  obtain ⟨gs30, o30⟩ := A30.cell (fun c z => z.o)
  refine yK_v rfl ?_
  refine ys_f 343 r_286_340 rfl ?_
  refine ys_f 344 r_286_343 rfl ?_
  refine ys_ldc 346 r_286_344 rfl ?_
  refine ys_f 347 r_286_346 rfl ?_
  refine ys_call (lv2 := [(0, _), (1, _), (2, _)]) r_286_347 rfl rfl (by decide) (xcan_1 rfl) rfl (yP_lv [(0, .ref b), (1, .ref 45), (2, .int (nI 0))] rfl ⟨rfl, rfl, (congrArg (fun z => some (Value.int z)) (nI_k 0)), trivial⟩ (la_169 stA_19 (by omega) (by omega) bad_19 A30 (fun h31 F31 Bu31 A31 M31 => ?_)))
  have C31 := MvC.cost M31 C30.1 C30.2
  have L31 := L30.mv M31 A30.ge
  obtain ⟨gs31, o31⟩ := A31.cell (fun c z => z.o)
  refine yK_v rfl ?_
  refine ys_f 353 r_286_350 rfl ?_
  refine ys_f 354 r_286_353 rfl ?_
  refine ys_call (lv2 := [(0, _)]) r_286_354 rfl rfl (by decide) (xcan_0 rfl rfl (by first | assumption) (by rfl)) rfl (yP_up (show d + 7 ≤ d + 9 by omega) (qa_128 A31 (nI_m1 rfl (by omega)) (fun h32 F32 A32 M32 => ?_)))
  have C32 := MvC.cost M32 C31.1 C31.2
  have L32 := L31.mv M32 A31.ge
  obtain ⟨gs32, o32⟩ := A32.cell (fun c z => z.o)
  refine yK_v rfl ?_
  refine ys_f 360 r_286_357 rfl ?_
  refine ys_f 361 r_286_360 rfl ?_
  refine ys_call (lv2 := [(0, _)]) r_286_361 rfl rfl (by decide) (xcan_1 rfl) rfl (lb_165 A32  (fun v33 e33 h33 F33 A33 M33 => ?_))
  have C33 := MvC.cost M33 C32.1 C32.2
  have L33 := L32.mv M33 A32.ge
  obtain ⟨gs33, o33⟩ := A33.cell (fun c z => z.o)
  refine yK_v rfl ?_
  refine ys_f 366 r_286_364 rfl ?_
  refine ys_if 371 369 r_286_366 rfl (fun hq => ?_) (fun hq => ?_)
  · exact yP_lv [(0, .ref 12), (1, .ref b), (3, .int (G 1)), (4, .int nw)] rfl ⟨rfl, rfl, rfl, rfl, trivial⟩ (k _ _ _ _ _ _ A33 (by omega) L33 ⟨by omega, by omega⟩)
  · exact (hq (e33.trans hw.symm)).elim

end S3
