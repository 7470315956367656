/-! the law, up to the third contest -/
theorem ys_ldc {S : XSc} {d mid pc : Nat} {lv : XLv} {st : List Value} {h : XH} {Q : XO → XH → Prop} (pc2 : Nat) {i a : Nat} {q : Nat × Nat} {ts : List Nat} (hr : xT.1 mid pc = some (.ldc i, (q, ([.ref a], ts)))) (hp : pc + 2 = pc2) (k : yP S d mid pc2 lv (.ref a :: st) h Q) : yP S d mid pc lv st h Q :=
  ys_h pc2 hr rfl hp (st2 := .ref a :: st) (h2 := h) rfl k
theorem MvC.cost {h h2 : XH} {F F2 : Nat → Prop} {x y a b : Nat} (u : MvC h h2 F F2 x y) (h1 : h.2.2.1 ≤ a) (h3 : h.2.2.2 ≤ b) : h2.2.2.1 ≤ a + x ∧ h2.2.2.2 ≤ b + y := by
  obtain ⟨n, n2, e1, e2, u1, u2, u3, u4, u5, u6⟩ := u
  omega
theorem Ca.num {B : Nat} {G H Sv : Nat → Int32} {ch : Nat} {sv : Bool} {ea fa : Int32} {tn : Nat} {Bu : Nat → Int32} {h : XH} (hC : Ca B G H Sv ch sv ea fa tn Bu h) {i : Nat} (hi : i < noG G) : ∃ v, v < 1000 ∧ G (120 + i) = nI v := by
  obtain ⟨pos, K, hX, hS, -, -, -, hK, h8, ht, hB9⟩ := hC
  obtain ⟨nn, N, ho, TS, TH, tr, pl, q, s, R, hBd, hr, hk, hN, hs⟩ := hS.nm (by omega)
  obtain ⟨-, ⟨v, hv, e⟩, -⟩ := hk.2.1 i hi
  exact ⟨v, by omega, (hr.2.2.2.2.1 i hi).1.symm.trans e⟩
theorem pst_num {h : XH} {b B : Nat} {F : Nat → Prop} {G H Sv : Nat → Int32} {ch : Nat} {sv : Bool} {ea fa : Int32} {tn : Nat} {Bu : Nat → Int32} (A : AtC h b F (Ca B G H Sv ch sv ea fa tn Bu)) (h0 : 0 < noG G) : ∃ v, v < 1000 ∧ (rot (gQ G (mnG G)) 0 (noG G - 1) 0).1 = nI v := by
  obtain ⟨c, hC⟩ := A.get
  rw [rot_I]
  exact hC.num (rotI_lt (by omega) (by omega) h0)
theorem AtC.gd {h : XH} {b B : Nat} {F : Nat → Prop} {G H Sv : Nat → Int32} {ch : Nat} {sv : Bool} {ea fa : Int32} {tn : Nat} {Bu : Nat → Int32} (A : AtC h b F (Ca B G H Sv ch sv ea fa tn Bu)) : Gd G ∧ ch ≤ 8 := by
  obtain ⟨c, hC⟩ := A.get
  refine ⟨hC.gd, ?_⟩
  obtain ⟨pos, K, -, -, -, -, -, hK, h8, -⟩ := hC
  exact h8
theorem hit_nn {E : Nat → XEst} {t : Int32} {n : Nat} (h : n ≤ 5) : ¬ nI (hitN E t n) < 0 := fun z => by
  have := hitN_le E t n
  have := (nI_ltN (x := nI (hitN E t n)) (y := 0) rfl (nI_k 0) (by omega) (by omega)).mp z
  omega
theorem set_nn {h : XH} {b B : Nat} {F : Nat → Prop} {G H Sv : Nat → Int32} {ch : Nat} {sv : Bool} {ea fa : Int32} {tn : Nat} {Bu : Nat → Int32} {t : Int32} (A : AtC h b F (Ca B G H Sv ch sv ea fa tn Bu)) : ¬ nI (hitN (gQ G (mnG G) 0).2.2.2 t (gQ G (mnG G) 0).2.2.1) < 0 := hit_nn (show mnG G 0 ≤ 5 from (A.gd.1.2.2.1 0 (by omega)).2)
theorem lb_165 {S : XSc} {d B b : Nat} {h : XH} {F : Nat → Prop} {Q : XO → XH → Prop} {G H Sv : Nat → Int32} {ch : Nat} {sv : Bool} {ea fa : Int32} {tn : Nat} {Bu : Nat → Int32} (A : AtC h b F (Ca B G H Sv ch sv ea fa tn Bu)) (k : ∀ v, v = Dg G → ∀ h2 F2, AtC h2 b F2 (Ca B G H Sv ch sv ea fa tn Bu) → MvC h h2 F F2 36 180 → Q (.inl (some (.int v))) h2) : yP S (d + 9) 165 0 [(0, .ref b)] [] h Q := la_165 A (fun h2 F2 A2 M2 => k _ rfl h2 F2 A2 M2)
theorem lw_s1 {S : XSc} {d : Nat} {Q : XO → XH → Prop} (hL : S.1 ≤ 260) (k : ∀ h2 bx bz Fx Fy G H Sv ch Bu, AtC h2 bx Fx (Ca 200 G H Sv ch false (-1) (-1) 0 Bu) → AtC h2 bz Fy (Ca 200 G H Sv ch false (-1) (-1) 0 Bu) → (∀ c, Fx c → Fy c → False) → Lo h2 → (h2.2.2.1 ≤ 1954 ∧ h2.2.2.2 ≤ 11236) → yP S (d + 10) 286 10 [(0, .ref 12), (1, .ref bx), (2, .ref bz)] [] h2 Q) : yP S (d + 10) 286 0 [(0, .ref 12)] [] emH Q := by
  have l0 : Lo emH := fun _ _ => rfl
  obtain ⟨n, z, e, b, ez, W⟩ := la_162 (S := S) (d := d) (h := emH) (n := 0) (Q := fun o h2 => ∃ b, o = .inl (some (.ref b)) ∧ Bd emH b 200 h2) hL l0 rfl (fun h2 b W => ⟨b, rfl, W⟩)
  obtain ⟨F1, G, H, Sv, ch, Bu, A, M⟩ := W.x
  have C := MvC.cost (a := 0) (b := 0) M (Nat.le_refl _) (Nat.le_refl _)
  obtain ⟨n1, hn1, -⟩ := A.lt
  have L1 := l0.mv M (fun c hc => hc.elim)
  refine ys_f 1 r_286_0 rfl ?_
  refine ys_call (lv2 := [(0, _)]) r_286_1 rfl rfl (by decide) (xcan_1 rfl) rfl ⟨n, z, e, ?_⟩
  rw [ez]
  refine yK_v rfl ?_
  refine ys_f 5 (lv2 := [(1, _), (0, _)]) r_286_4 rfl ?_
  refine ys_f 6 r_286_5 rfl ?_
  refine ys_call (lv2 := [(0, _)]) r_286_6 rfl rfl (by decide) (xcan_1 rfl) rfl (again e ez A (x := 977) (y := 5618) (by omega) (by omega) L1 hn1 (fun h2 b2 F2 A2 M2 => ?_))
  obtain ⟨A3, D⟩ := A.keep M2 (fun c q => q.elim) (fun c q => q.elim)
  have C2 := MvC.cost M2 C.1 C.2
  refine yK_v rfl ?_
  refine ys_f 10 (lv2 := [(2, _), (1, _), (0, _)]) r_286_9 rfl ?_
  exact yP_lv [(0, .ref 12), (1, .ref b), (2, .ref b2)] rfl ⟨rfl, rfl, rfl, trivial⟩ (k h2 b b2 F1 F2 G H Sv ch Bu A3 A2 (fun c q w => D c w q) (L1.mv M2 (fun c hc => hc.elim)) ⟨by omega, by omega⟩)
section S2
variable {S : XSc} {d b bz : Nat} {h : XH} {F Fy : Nat → Prop} {Q : XO → XH → Prop} {G H Sv : Nat → Int32} {ch : Nat} {Bu : Nat → Int32}
theorem lw_s2  (A : AtC h b F (Ca 200 G H Sv ch false (-1) (-1) 0 Bu)) (Y : AtC h bz Fy (Ca 200 G H Sv ch false (-1) (-1) 0 Bu)) (D : ∀ c, F c → Fy c → False) (L : Lo h) (C : h.2.2.1 ≤ 1954 ∧ h.2.2.2 ≤ 11236) (k : ∀ nw h2 F2 Fy2, nw = Dg G → AtC h2 b F2 (Ca 225 G H G ch true (-1) (-1) 25 (putB Bu (xfB 6) 25)) → AtC h2 bz Fy2 (Ca 200 G H Sv ch false (-1) (-1) 0 Bu) → (∀ c, F2 c → Fy2 c → False) → Lo h2 → (h2.2.2.1 ≤ 1990 ∧ h2.2.2.2 ≤ 11416) → yP S (d + 10) 286 27 [(0, .ref 12), (1, .ref b), (2, .ref bz), (3, .int (G 1)), (4, .int nw)] [] h2 Q) : yP S (d + 10) 286 10 [(0, .ref 12), (1, .ref b), (2, .ref bz)] [] h Q := by
  obtain ⟨gs, o0⟩ := A.cell (fun c z => z.o)
  obtain ⟨gt, p0⟩ := Y.cell (fun c z => z.o)
  refine ys_f 11 r_286_10 rfl ?_
  refine ys_call (lv2 := [(0, _)]) r_286_11 rfl rfl (by decide) (xcan_0 rfl rfl (by first | assumption) (by rfl)) rfl (yP_up (show d + 7 ≤ d + 9 by omega) (qa_133 A  (fun h21 F21 A21 M21 => ?_)))
  have C21 := MvC.cost M21 C.1 C.2
  have L21 := L.mv M21 A.ge
  obtain ⟨B21, D21⟩ := Y.keep M21 D A.ge
  obtain ⟨gt21, p21⟩ := B21.cell (fun c z => z.o)
  obtain ⟨gs21, o21⟩ := A21.cell (fun c z => z.o)
  refine yK_v rfl ?_
  refine ys_f 15 (lv2 := [(3, _), (0, _), (1, _), (2, _)]) r_286_14 rfl ?_
  refine ys_f 16 r_286_15 rfl ?_
  refine ys_call (lv2 := [(0, _)]) r_286_16 rfl rfl (by decide) (xcan_1 rfl) rfl (lb_165 A21  (fun v22 e22 h22 F22 A22 M22 => ?_))
  have C22 := MvC.cost M22 C21.1 C21.2
  have L22 := L21.mv M22 A21.ge
  obtain ⟨B22, D22⟩ := B21.keep M22 D21 A21.ge
  obtain ⟨gt22, p22⟩ := B22.cell (fun c z => z.o)
  obtain ⟨gs22, o22⟩ := A22.cell (fun c z => z.o)
  refine yK_v rfl ?_
  refine ys_f 21 (lv2 := [(4, _), (3, _), (0, _), (1, _), (2, _)]) r_286_19 rfl ?_
  refine ys_f 22 r_286_21 rfl ?_
  refine ys_ldc 24 r_286_22 rfl ?_
  refine ys_call (lv2 := [(0, _), (1, _)]) r_286_24 rfl rfl (by decide) (xcan_1 rfl) rfl (yP_up (show d + 8 ≤ d + 9 by omega) (la_161 stA_6 (by omega) A22  (fun h23 F23 A23 M23 => ?_)))
  have C23 := MvC.cost M23 C22.1 C22.2
  have L23 := L22.mv M23 A22.ge
  obtain ⟨B23, D23⟩ := B22.keep M23 D22 A22.ge
  obtain ⟨gt23, p23⟩ := B23.cell (fun c z => z.o)
  obtain ⟨gs23, o23⟩ := A23.cell (fun c z => z.o)
  refine yK_0 rfl ?_
  exact yP_lv [(0, .ref 12), (1, .ref b), (2, .ref bz), (3, .int (G 1)), (4, .int _)] rfl ⟨rfl, rfl, rfl, rfl, rfl, trivial⟩ (k _ _ _ _ e22 A23 B23 D23 L23 C23)

theorem lw_s3a  {nw : Int32} (hw : nw = Dg G) (A : AtC h b F (Ca 225 G H G ch true (-1) (-1) 25 (putB Bu (xfB 6) 25))) (Y : AtC h bz Fy (Ca 200 G H Sv ch false (-1) (-1) 0 Bu)) (D : ∀ c, F c → Fy c → False) (L : Lo h) (C : h.2.2.1 ≤ 1990 ∧ h.2.2.2 ≤ 11416) (h2g : 1 < noG G) (k : ∀ h2 F2 B2 H2 ch2 ea2 fa2 Bu2, AtC h2 b F2 (Ca B2 G H2 G ch2 true ea2 fa2 0 Bu2) → B2 ≤ 240 → Lo h2 → (h2.2.2.1 ≤ 5000 ∧ h2.2.2.2 ≤ 30000) → yP S (d + 10) 286 170 [(0, .ref 12), (1, .ref b), (3, .int (G 1)), (4, .int nw)] [] h2 Q) : yP S (d + 10) 286 27 [(0, .ref 12), (1, .ref b), (2, .ref bz), (3, .int (G 1)), (4, .int nw)] [] h Q := by
  obtain ⟨gs, o0⟩ := A.cell (fun c z => z.o)
  obtain ⟨gt, p0⟩ := Y.cell (fun c z => z.o)
  have g := A.gd.1
  have h8 := A.gd.2
  have g1 := g.2.1.1
  have g6 := g.2.1.2
  have gn5 := g.2.2.1 0 (by omega)
  
  refine ys_f 28 r_286_27 rfl ?_
  refine ys_f 29 r_286_28 rfl ?_
  refine ys_if 134 32 r_286_29 rfl (fun h29 => ?_) (fun h29 => ?_)
  · have h29 := (nI_leN g1 (nI_k 1) (by omega) (by omega)).mp h29
    exfalso; omega
  · have h29 := mt (nI_leN g1 (nI_k 1) (by omega) (by omega)).mpr h29
    refine ys_f 33 r_286_32 rfl ?_
    refine ys_call (lv2 := [(0, _)]) r_286_33 rfl rfl (by decide) (xcan_0 rfl rfl (by first | assumption) (by rfl)) rfl (yP_up (show d + 7 ≤ d + 9 by omega) (qa_126C A (by omega) (t6_all h2g g6 Bu) (fun h21 F21 A21 M21 => ?_)))
    have C21 := MvC.cost M21 C.1 C.2
    have L21 := L.mv M21 A.ge
    obtain ⟨B21, D21⟩ := Y.keep M21 D A.ge
    obtain ⟨gt21, p21⟩ := B21.cell (fun c z => z.o)
    obtain ⟨gs21, o21⟩ := A21.cell (fun c z => z.o)
    refine yK_v rfl ?_
    refine ys_f 37 r_286_36 rfl ?_
    refine ys_f 40 r_286_37 rfl ?_
    refine ys_f 41 r_286_40 rfl ?_
    obtain ⟨v9, hv9, ev9⟩ := pst_num B21 (by omega)
    refine ys_call (lv2 := [(0, _)]) r_286_41 rfl rfl (by decide) (xcan_0 rfl rfl (by first | assumption) (by rfl)) rfl (yP_up (show d + 7 ≤ d + 9 by omega) (qa_88 B21 (by omega) (fun z => absurd z (by unfold postF; rw [if_pos (by omega)]; decide)) (fun z22 h22 F22 A22 M22 => ?_)))
    have C22 := MvC.cost M22 C21.1 C21.2
    have L22 := L21.mv M22 B21.ge
    obtain ⟨B22, D22'⟩ := A21.keep M22 (fun c q w => D21 c w q) B21.ge
    have D22 := fun c q w => D22' c w q
    obtain ⟨gt22, p22⟩ := B22.cell (fun c z => z.o)
    obtain ⟨gs22, o22⟩ := A22.cell (fun c z => z.o)
    refine yK_v rfl ?_
    refine ys_if 76 47 r_286_44 rfl (fun hq => ?_) (fun hq => ?_)
    · have hq := (nI_ltN ev9 (nI_k 0) (by omega) (by omega)).mp hq
      exfalso; omega
    · have hq := mt (nI_ltN ev9 (nI_k 0) (by omega) (by omega)).mpr hq
      refine ys_f 48 r_286_47 rfl ?_
      refine ys_f 50 r_286_48 rfl ?_
      have nn1 := set_nn (t := 120) A22
      refine ys_call (lv2 := [(0, _), (1, _)]) r_286_50 rfl rfl (by decide) (xcan_0 rfl rfl (by first | assumption) (by rfl)) rfl (yP_up (show d + 7 ≤ d + 9 by omega) (qa_87 A22 (by omega) (fun z => absurd z (by rw [settF_0 (by decide) (by rw [gPst_no g6]; omega)]; decide)) (fun z => absurd z (by rw [settF_0 (by decide) (by rw [gPst_no g6]; omega)]; decide)) (fun z23 h23 F23 A23 M23 => ?_)))
      have C23 := MvC.cost M23 C22.1 C22.2
      have L23 := L22.mv M23 A22.ge
      obtain ⟨B23, D23'⟩ := B22.keep M23 (fun c q w => D22 c w q) A22.ge
      have D23 := fun c q w => D23' c w q
      obtain ⟨gt23, p23⟩ := B23.cell (fun c z => z.o)
      obtain ⟨gs23, o23⟩ := A23.cell (fun c z => z.o)
      refine yK_v rfl ?_
      refine ys_if 76 56 r_286_53 rfl (fun hq => ?_) (fun hq => ?_)
      · exact (nn1 hq).elim
      · refine ys_f 57 r_286_56 rfl ?_
        refine ys_f 59 r_286_57 rfl ?_
        have nn2 := set_nn (t := 7) A23
        refine ys_call (lv2 := [(0, _), (1, _)]) r_286_59 rfl rfl (by decide) (xcan_0 rfl rfl (by first | assumption) (by rfl)) rfl (yP_up (show d + 7 ≤ d + 9 by omega) (qa_87 A23 (by omega) (fun z => absurd z (by rw [settF_0 (by decide) (by rw [gSet_no (by rw [gPst_no g6]; omega), gPst_no g6]; omega)]; decide)) (fun z => absurd z (by rw [settF_0 (by decide) (by rw [gSet_no (by rw [gPst_no g6]; omega), gPst_no g6]; omega)]; decide)) (fun z24 h24 F24 A24 M24 => ?_)))
        have C24 := MvC.cost M24 C23.1 C23.2
        have L24 := L23.mv M24 A23.ge
        obtain ⟨B24, D24'⟩ := B23.keep M24 (fun c q w => D23 c w q) A23.ge
        have D24 := fun c q w => D24' c w q
        obtain ⟨gt24, p24⟩ := B24.cell (fun c z => z.o)
        obtain ⟨gs24, o24⟩ := A24.cell (fun c z => z.o)
        refine yK_v rfl ?_
        refine ys_if 76 65 r_286_62 rfl (fun hq => ?_) (fun hq => ?_)
        · exact (nn2 hq).elim
        · refine ys_f 66 r_286_65 rfl ?_
          refine ys_call (lv2 := [(0, _)]) r_286_66 rfl rfl (by decide) (xcan_1 rfl) rfl (lb_165 B24  (fun v25 e25 h25 F25 A25 M25 => ?_))
          have C25 := MvC.cost M25 C24.1 C24.2
          have L25 := L24.mv M25 B24.ge
          obtain ⟨B25, D25⟩ := A24.keep M25 D24 B24.ge
          obtain ⟨gt25, p25⟩ := B25.cell (fun c z => z.o)
          obtain ⟨gs25, o25⟩ := A25.cell (fun c z => z.o)
          refine yK_v rfl ?_
          refine ys_f 70 r_286_69 rfl ?_
          refine ys_call (lv2 := [(0, _)]) r_286_70 rfl rfl (by decide) (xcan_1 rfl) rfl (lb_165 B25  (fun v26 e26 h26 F26 A26 M26 => ?_))
          have C26 := MvC.cost M26 C25.1 C25.2
          have L26 := L25.mv M26 B25.ge
          obtain ⟨B26, D26'⟩ := A25.keep M26 (fun c q w => D25 c w q) B25.ge
          have D26 := fun c q w => D26' c w q
          obtain ⟨gt26, p26⟩ := B26.cell (fun c z => z.o)
          obtain ⟨gs26, o26⟩ := A26.cell (fun c z => z.o)
          refine yK_v rfl ?_
          refine ys_if 78 76 r_286_73 rfl (fun hq => ?_) (fun hq => ?_)
          · refine ys_f 79 r_286_78 rfl ?_
            refine ys_call (lv2 := [(0, _)]) r_286_79 rfl rfl (by decide) (xcan_0 rfl rfl (by first | assumption) (by rfl)) rfl (yP_up (show d + 7 ≤ d + 9 by omega) (qa_131 B26  (fun h27 F27 A27 M27 => ?_)))
            have C27 := MvC.cost M27 C26.1 C26.2
            have L27 := L26.mv M27 B26.ge
            obtain ⟨B27, D27⟩ := A26.keep M27 D26 B26.ge
            obtain ⟨gt27, p27⟩ := B27.cell (fun c z => z.o)
            obtain ⟨gs27, o27⟩ := A27.cell (fun c z => z.o)
            refine yK_v rfl ?_
            refine ys_f 83 r_286_82 rfl ?_
            refine ys_if 132 86 r_286_83 rfl (fun hq => ?_) (fun hq => ?_)
            · have hq := (nI_ltN rfl (nI_k 1) (by omega) (by omega)).mp hq
              exfalso; omega
            · have hq := mt (nI_ltN rfl (nI_k 1) (by omega) (by omega)).mpr hq
              refine ys_f 87 r_286_86 rfl ?_
              refine ys_call (lv2 := [(0, _)]) r_286_87 rfl rfl (by decide) (xcan_0 rfl rfl (by first | assumption) (by rfl)) rfl (yP_up (show d + 7 ≤ d + 9 by omega) (qa_132 A27 (by omega) (fun h28 F28 A28 M28 => ?_)))
              have C28 := MvC.cost M28 C27.1 C27.2
              have L28 := L27.mv M28 A27.ge
              obtain ⟨B28, D28⟩ := B27.keep M28 D27 A27.ge
              obtain ⟨gt28, p28⟩ := B28.cell (fun c z => z.o)
              have A28b := A28.imp (fun c hc => hc.cong (H := G) (fun i hi => (psh_1 h8 i hi).symm))
              obtain ⟨gs28, o28⟩ := A28.cell (fun c z => z.o)
              refine yK_v rfl ?_
              refine ys_if 132 93 r_286_90 rfl (fun hq => ?_) (fun hq => ?_)
              · have hq := (nI_ltN rfl (nI_k 0) (by omega) (by omega)).mp hq
                exfalso; omega
              · have hq := mt (nI_ltN rfl (nI_k 0) (by omega) (by omega)).mpr hq
                refine ys_f 94 r_286_93 rfl ?_
                refine ys_call (lv2 := [(0, _)]) r_286_94 rfl rfl (by decide) (xcan_1 rfl) rfl (lb_165 A28b  (fun v29 e29 h29 F29 A29 M29 => ?_))
                have C29 := MvC.cost M29 C28.1 C28.2
                have L29 := L28.mv M29 A28b.ge
                obtain ⟨B29, D29⟩ := B28.keep M29 D28 A28b.ge
                obtain ⟨gt29, p29⟩ := B29.cell (fun c z => z.o)
                obtain ⟨gs29, o29⟩ := A29.cell (fun c z => z.o)
                refine yK_v rfl ?_
                refine ys_f 99 r_286_97 rfl ?_
                refine ys_if 102 132 r_286_99 rfl (fun hq => ?_) (fun hq => ?_)
                · refine ys_f 103 r_286_102 rfl ?_
                  refine ys_call (lv2 := [(0, _)]) r_286_103 rfl rfl (by decide) (xcan_0 rfl rfl (by first | assumption) (by rfl)) rfl (yP_up (show d + 7 ≤ d + 9 by omega) (qa_132 B29 (by omega) (fun h30 F30 A30 M30 => ?_)))
                  have C30 := MvC.cost M30 C29.1 C29.2
                  have L30 := L29.mv M30 B29.ge
                  obtain ⟨B30, D30'⟩ := A29.keep M30 (fun c q w => D29 c w q) B29.ge
                  have D30 := fun c q w => D30' c w q
                  obtain ⟨gt30, p30⟩ := B30.cell (fun c z => z.o)
                  obtain ⟨gs30, o30⟩ := A30.cell (fun c z => z.o)
                  refine yK_v rfl ?_
                  refine ys_if 132 109 r_286_106 rfl (fun hq => ?_) (fun hq => ?_)
                  · have hq := (nI_ltN rfl (nI_k 0) (by omega) (by omega)).mp hq
                    exfalso; omega
                  · have hq := mt (nI_ltN rfl (nI_k 0) (by omega) (by omega)).mpr hq
                    refine ys_f 110 r_286_109 rfl ?_
                    refine ys_call (lv2 := [(0, _)]) r_286_110 rfl rfl (by decide) (xcan_0 rfl rfl (by first | assumption) (by rfl)) rfl (yP_up (show d + 7 ≤ d + 9 by omega) (qa_132 A30 (by omega) (fun h31 F31 A31 M31 => ?_)))
                    have C31 := MvC.cost M31 C30.1 C30.2
                    have L31 := L30.mv M31 A30.ge
                    obtain ⟨B31, D31'⟩ := B30.keep M31 (fun c q w => D30 c w q) A30.ge
                    have D31 := fun c q w => D31' c w q
                    obtain ⟨gt31, p31⟩ := B31.cell (fun c z => z.o)
                    obtain ⟨gs31, o31⟩ := A31.cell (fun c z => z.o)
                    refine yK_v rfl ?_
                    refine ys_if 132 116 r_286_113 rfl (fun hq => ?_) (fun hq => ?_)
                    · have hq := (nI_ltN rfl (nI_k 0) (by omega) (by omega)).mp hq
                      exfalso; omega
                    · have hq := mt (nI_ltN rfl (nI_k 0) (by omega) (by omega)).mpr hq
                      refine ys_f 117 r_286_116 rfl ?_
                      refine ys_call (lv2 := [(0, _)]) r_286_117 rfl rfl (by decide) (xcan_0 rfl rfl (by first | assumption) (by rfl)) rfl (yP_up (show d + 7 ≤ d + 9 by omega) (qa_132 A31 (by omega) (fun h32 F32 A32 M32 => ?_)))
                      have C32 := MvC.cost M32 C31.1 C31.2
                      have L32 := L31.mv M32 A31.ge
                      obtain ⟨B32, D32'⟩ := B31.keep M32 (fun c q w => D31 c w q) A31.ge
                      have D32 := fun c q w => D32' c w q
                      obtain ⟨gt32, p32⟩ := B32.cell (fun c z => z.o)
                      have A32b := A32.imp (fun c hc => hc.cong (H := G) (fun i hi => ((psh_2 (t := 2) (by omega) (by omega) (by omega) (by omega) i hi).trans ((psh_2 (t := 1) (by omega) (by omega) (by omega) (by omega) i hi).trans (psh_1 h8 i hi))).symm))
                      obtain ⟨gs32, o32⟩ := A32.cell (fun c z => z.o)
                      refine yK_v rfl ?_
                      refine ys_if 132 123 r_286_120 rfl (fun hq => ?_) (fun hq => ?_)
                      · have hq := (nI_ltN rfl (nI_k 0) (by omega) (by omega)).mp hq
                        exfalso; omega
                      · have hq := mt (nI_ltN rfl (nI_k 0) (by omega) (by omega)).mpr hq
                        refine ys_f 124 r_286_123 rfl ?_
                        refine ys_call (lv2 := [(0, _)]) r_286_124 rfl rfl (by decide) (xcan_1 rfl) rfl (lb_165 A32b  (fun v33 e33 h33 F33 A33 M33 => ?_))
                        have C33 := MvC.cost M33 C32.1 C32.2
                        have L33 := L32.mv M33 A32b.ge
                        obtain ⟨B33, D33'⟩ := B32.keep M33 (fun c q w => D32 c w q) A32b.ge
                        have D33 := fun c q w => D33' c w q
                        obtain ⟨gt33, p33⟩ := B33.cell (fun c z => z.o)
                        obtain ⟨gs33, o33⟩ := A33.cell (fun c z => z.o)
                        refine yK_v rfl ?_
                        refine ys_f 129 r_286_127 rfl ?_
                        refine ys_if 170 132 r_286_129 rfl (fun hq => ?_) (fun hq => ?_)
                        · exact yP_lv [(0, .ref 12), (1, .ref b), (3, .int (G 1)), (4, .int nw)] rfl ⟨rfl, rfl, rfl, rfl, trivial⟩ (k _ _ _ _ _ _ _ _ B33 (by omega) L33 ⟨by omega, by omega⟩)
                        · exact (hq (e33.trans hw.symm)).elim
                · exact (hq (e29.trans hw.symm)).elim
          · rw [e25, e26] at hq
            unfold g3R g2R gsR g1R at hq
            exact (hq rfl).elim

end S2
