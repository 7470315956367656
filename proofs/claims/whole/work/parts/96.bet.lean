/-! the reference's parser: a bet -/
def Fp8 (f g : Nat → Option XE) (a : Nat) : Prop := ∀ c, (c ≠ a ∧ c ≠ a + 8) → g c = f c
theorem Fp8.tr {f g k : Nat → Option XE} {a : Nat} (h : Fp8 f g a) (h2 : Fp8 g k a) : Fp8 f k a := fun c hc => (h2 c hc).trans (h c hc)
theorem Fp8.o {f g : Nat → Option XE} {a : Nat} (h : Fr f g a (a + 1)) : Fp8 f g a := fun c hc => h c (by omega)
theorem Fp8.p {f g : Nat → Option XE} {a : Nat} (h : Fr f g (a + 8) (a + 8 + 1)) : Fp8 f g a := fun c hc => h c (by omega)
theorem dgM_le {Bu : Nat → Int32} {tn mx : Nat} {s : Nat × Bool} : (dgM Bu tn mx s).2.1 ≤ s.1 + mx := by
  unfold dgM
  have := dgc_le (Bu := Bu) (n := tn) (p := s.1) mx
  split
  · show s.1 + _ ≤ _; omega
  · show s.1 ≤ _; omega
def daM (Bu : Nat → Int32) (tn : Nat) (c : Int32) (mx : Nat) (s : Nat × Bool) : Int32 × (Nat × Bool) := dgM Bu tn mx (ndM Bu tn c s)
theorem daM_le {Bu : Nat → Int32} {tn mx : Nat} {c : Int32} {s : Nat × Bool} : (daM Bu tn c mx s).2.1 ≤ s.1 + 1 + mx := by
  have h1 := dgM_le (Bu := Bu) (tn := tn) (mx := mx) (s := ndM Bu tn c s)
  have h2 := ndM_le (Bu := Bu) (tn := tn) (c := c) (s := s)
  unfold daM
  omega
theorem m_227 {S : XSc} {d : Nat} {h : XH} {Q : XO → XH → Prop} {a tn pn : Nat} {ch sv ea fa ol th : Int32} {Bu : Nat → Int32} {wb : Bool} {Pa : Nat → Int32} {b : Nat} (o0 : h.1 a = some (.inr (9, mO a ch sv (nI tn) ea fa ol th (nI pn) (bI wb)))) (b0 : IA h.1 3 (a + 5) 60 Bu) (p0 : IA h.1 0 (a + 8) 420 Pa) (h32 : 32 ≤ a) (ht : tn ≤ 60) (hp : pn ≤ 500) (hb : b + 7 ≤ 420) (k : ∀ f, f a = some (.inr (9, mO a ch sv (nI tn) ea fa ol th (nI (daM Bu tn 32 2 (daM Bu tn 32 1 (daM Bu tn 45 3 (daM Bu tn 32 3 (daM Bu tn 32 2 (daM Bu tn 32 1 (ndM Bu tn 116 (ndM Bu tn 101 (pn, wb)))).2).2).2).2).2).2.1) (bI (daM Bu tn 32 2 (daM Bu tn 32 1 (daM Bu tn 45 3 (daM Bu tn 32 3 (daM Bu tn 32 2 (daM Bu tn 32 1 (ndM Bu tn 116 (ndM Bu tn 101 (pn, wb)))).2).2).2).2).2).2.2))) → IA f 0 (a + 8) 420 (xw (xw (xw (xw (xw (xw Pa (b + 1) (daM Bu tn 32 1 (ndM Bu tn 116 (ndM Bu tn 101 (pn, wb)))).1) (b + 2) (daM Bu tn 32 2 (daM Bu tn 32 1 (ndM Bu tn 116 (ndM Bu tn 101 (pn, wb)))).2).1) (b + 3) (daM Bu tn 32 3 (daM Bu tn 32 2 (daM Bu tn 32 1 (ndM Bu tn 116 (ndM Bu tn 101 (pn, wb)))).2).2).1) (b + 4) (daM Bu tn 45 3 (daM Bu tn 32 3 (daM Bu tn 32 2 (daM Bu tn 32 1 (ndM Bu tn 116 (ndM Bu tn 101 (pn, wb)))).2).2).2).1) (b + 5) (daM Bu tn 32 1 (daM Bu tn 45 3 (daM Bu tn 32 3 (daM Bu tn 32 2 (daM Bu tn 32 1 (ndM Bu tn 116 (ndM Bu tn 101 (pn, wb)))).2).2).2).2).1) (b + 6) (daM Bu tn 32 2 (daM Bu tn 32 1 (daM Bu tn 45 3 (daM Bu tn 32 3 (daM Bu tn 32 2 (daM Bu tn 32 1 (ndM Bu tn 116 (ndM Bu tn 101 (pn, wb)))).2).2).2).2).2).1) → Fp8 h.1 f a → Q (.inl none) (f, h.2)) : xP S (d + 3) 227 0 [(0, .ref a), (1, .int (nI b))] [] h Q := by
  refine xs_f 1 r_227_0 rfl ?_
  refine xs_f 3 r_227_1 rfl ?_
  refine xs_call (lv2 := [(0, _), (1, _)]) r_227_3 rfl rfl (by decide) (xcan_0 rfl rfl (by first | assumption | exact xup_s | exact o0 | (refine (xup_n (by omega)).trans ?_; first | assumption | exact xup_s | exact o0) | (refine (xup_n (by omega)).trans ((xup_n (by omega)).trans ?_); first | assumption | exact xup_s | exact o0) | (refine (xup_n (by omega)).trans ((xup_n (by omega)).trans ((xup_n (by omega)).trans ?_)); first | assumption | exact xup_s | exact o0)) (by rfl)) rfl (m_223 o0 b0 h32 ht (by omega) (fun f1 o1 y1 => ?_))
  refine xK_0 rfl ?_
  have b1 := b0.fr (y1 (a + 5) (by omega))
  have n1 := ndM_le (Bu := Bu) (tn := tn) (c := 101) (s := (pn, wb))
  have n2 := ndM_le (Bu := Bu) (tn := tn) (c := 116) (s := ndM Bu tn 101 (pn, wb))
  have n0 : ((pn, wb) : Nat × Bool).1 = pn := rfl
  refine xs_f 7 r_227_6 rfl ?_
  refine xs_f 9 r_227_7 rfl ?_
  refine xs_call (lv2 := [(0, _), (1, _)]) r_227_9 rfl rfl (by decide) (xcan_0 rfl rfl o1 (by rfl)) rfl (m_223 (h := (f1, h.2)) o1 b1 h32 ht (by omega) (fun f2 o2 y2 => ?_))
  refine xK_0 rfl ?_
  have F2 := (Fp8.o y1).tr (Fp8.o y2)
  have p2 := (p0.fr (y1 (a + 8) (by omega))).fr (y2 (a + 8) (by omega))
  have b2 := b0.fr (F2 (a + 5) (by omega))
  have n12 := daM_le (Bu := Bu) (tn := tn) (c := 32) (mx := 1) (s := (ndM Bu tn 116 (ndM Bu tn 101 (pn, wb))))
  refine xs_f 13 r_227_12 rfl ?_
  refine xs_get 16 r_227_13 rfl rfl o2 (by rfl) ?_
  refine xs_f 17 r_227_16 rfl ?_
  refine xs_f 18 r_227_17 rfl ?_
  refine xs_f 19 r_227_18 rfl ?_
  refine xs_f 20 r_227_19 rfl ?_
  refine xs_f 22 r_227_20 rfl ?_
  refine xs_f 23 r_227_22 rfl ?_
  refine xs_call (lv2 := [(0, _), (1, _), (2, _)]) r_227_23 rfl rfl (by decide) (xcan_0 rfl rfl o2 (by rfl)) rfl (m_226 (h := (f2, h.2)) o2 b2 h32 ht (by show (ndM Bu tn 116 (ndM Bu tn 101 (pn, wb))).1 ≤ 800; omega) (mx := 1) (by omega) (by omega) (fun f3 o3 y3 => ?_))
  refine xK_v rfl ?_
  have p3 := p2.fr (y3 (a + 8) (by omega))
  refine xs_astI 27 r_227_26 (fun _ _ => rfl) rfl rfl rfl (j := (b + 1)) (nI_addE rfl (nI_k 1)) p3 (by omega) (fun f4 p4 y4 => ?_)
  have o4 := (y4 a (by omega)).trans o3
  have F4 := (F2.tr (Fp8.o y3)).tr (Fp8.p y4)
  have b4 := b0.fr (F4 (a + 5) (by omega))
  have n14 := daM_le (Bu := Bu) (tn := tn) (c := 32) (mx := 2) (s := (daM Bu tn 32 1 (ndM Bu tn 116 (ndM Bu tn 101 (pn, wb)))).2)
  refine xs_f 28 r_227_27 rfl ?_
  refine xs_get 31 r_227_28 rfl rfl o4 (by rfl) ?_
  refine xs_f 32 r_227_31 rfl ?_
  refine xs_f 33 r_227_32 rfl ?_
  refine xs_f 34 r_227_33 rfl ?_
  refine xs_f 35 r_227_34 rfl ?_
  refine xs_f 37 r_227_35 rfl ?_
  refine xs_f 38 r_227_37 rfl ?_
  refine xs_call (lv2 := [(0, _), (1, _), (2, _)]) r_227_38 rfl rfl (by decide) (xcan_0 rfl rfl o4 (by rfl)) rfl (m_226 (h := (f4, h.2)) o4 b4 h32 ht (by show (daM Bu tn 32 1 (ndM Bu tn 116 (ndM Bu tn 101 (pn, wb)))).2.1 ≤ 800; omega) (mx := 2) (by omega) (by omega) (fun f5 o5 y5 => ?_))
  refine xK_v rfl ?_
  have p5 := p4.fr (y5 (a + 8) (by omega))
  refine xs_astI 42 r_227_41 (fun _ _ => rfl) rfl rfl rfl (j := (b + 2)) (nI_addE rfl (nI_k 2)) p5 (by omega) (fun f6 p6 y6 => ?_)
  have o6 := (y6 a (by omega)).trans o5
  have F6 := (F4.tr (Fp8.o y5)).tr (Fp8.p y6)
  have b6 := b0.fr (F6 (a + 5) (by omega))
  have n16 := daM_le (Bu := Bu) (tn := tn) (c := 32) (mx := 3) (s := (daM Bu tn 32 2 (daM Bu tn 32 1 (ndM Bu tn 116 (ndM Bu tn 101 (pn, wb)))).2).2)
  refine xs_f 43 r_227_42 rfl ?_
  refine xs_get 46 r_227_43 rfl rfl o6 (by rfl) ?_
  refine xs_f 47 r_227_46 rfl ?_
  refine xs_f 48 r_227_47 rfl ?_
  refine xs_f 49 r_227_48 rfl ?_
  refine xs_f 50 r_227_49 rfl ?_
  refine xs_f 52 r_227_50 rfl ?_
  refine xs_f 53 r_227_52 rfl ?_
  refine xs_call (lv2 := [(0, _), (1, _), (2, _)]) r_227_53 rfl rfl (by decide) (xcan_0 rfl rfl o6 (by rfl)) rfl (m_226 (h := (f6, h.2)) o6 b6 h32 ht (by show (daM Bu tn 32 2 (daM Bu tn 32 1 (ndM Bu tn 116 (ndM Bu tn 101 (pn, wb)))).2).2.1 ≤ 800; omega) (mx := 3) (by omega) (by omega) (fun f7 o7 y7 => ?_))
  refine xK_v rfl ?_
  have p7 := p6.fr (y7 (a + 8) (by omega))
  refine xs_astI 57 r_227_56 (fun _ _ => rfl) rfl rfl rfl (j := (b + 3)) (nI_addE rfl (nI_k 3)) p7 (by omega) (fun f8 p8 y8 => ?_)
  have o8 := (y8 a (by omega)).trans o7
  have F8 := (F6.tr (Fp8.o y7)).tr (Fp8.p y8)
  have b8 := b0.fr (F8 (a + 5) (by omega))
  have n18 := daM_le (Bu := Bu) (tn := tn) (c := 45) (mx := 3) (s := (daM Bu tn 32 3 (daM Bu tn 32 2 (daM Bu tn 32 1 (ndM Bu tn 116 (ndM Bu tn 101 (pn, wb)))).2).2).2)
  refine xs_f 58 r_227_57 rfl ?_
  refine xs_get 61 r_227_58 rfl rfl o8 (by rfl) ?_
  refine xs_f 62 r_227_61 rfl ?_
  refine xs_f 63 r_227_62 rfl ?_
  refine xs_f 64 r_227_63 rfl ?_
  refine xs_f 65 r_227_64 rfl ?_
  refine xs_f 67 r_227_65 rfl ?_
  refine xs_f 68 r_227_67 rfl ?_
  refine xs_call (lv2 := [(0, _), (1, _), (2, _)]) r_227_68 rfl rfl (by decide) (xcan_0 rfl rfl o8 (by rfl)) rfl (m_226 (h := (f8, h.2)) o8 b8 h32 ht (by show (daM Bu tn 32 3 (daM Bu tn 32 2 (daM Bu tn 32 1 (ndM Bu tn 116 (ndM Bu tn 101 (pn, wb)))).2).2).2.1 ≤ 800; omega) (mx := 3) (by omega) (by omega) (fun f9 o9 y9 => ?_))
  refine xK_v rfl ?_
  have p9 := p8.fr (y9 (a + 8) (by omega))
  refine xs_astI 72 r_227_71 (fun _ _ => rfl) rfl rfl rfl (j := (b + 4)) (nI_addE rfl (nI_k 4)) p9 (by omega) (fun f10 p10 y10 => ?_)
  have o10 := (y10 a (by omega)).trans o9
  have F10 := (F8.tr (Fp8.o y9)).tr (Fp8.p y10)
  have b10 := b0.fr (F10 (a + 5) (by omega))
  have n20 := daM_le (Bu := Bu) (tn := tn) (c := 32) (mx := 1) (s := (daM Bu tn 45 3 (daM Bu tn 32 3 (daM Bu tn 32 2 (daM Bu tn 32 1 (ndM Bu tn 116 (ndM Bu tn 101 (pn, wb)))).2).2).2).2)
  refine xs_f 73 r_227_72 rfl ?_
  refine xs_get 76 r_227_73 rfl rfl o10 (by rfl) ?_
  refine xs_f 77 r_227_76 rfl ?_
  refine xs_f 78 r_227_77 rfl ?_
  refine xs_f 79 r_227_78 rfl ?_
  refine xs_f 80 r_227_79 rfl ?_
  refine xs_f 82 r_227_80 rfl ?_
  refine xs_f 83 r_227_82 rfl ?_
  refine xs_call (lv2 := [(0, _), (1, _), (2, _)]) r_227_83 rfl rfl (by decide) (xcan_0 rfl rfl o10 (by rfl)) rfl (m_226 (h := (f10, h.2)) o10 b10 h32 ht (by show (daM Bu tn 45 3 (daM Bu tn 32 3 (daM Bu tn 32 2 (daM Bu tn 32 1 (ndM Bu tn 116 (ndM Bu tn 101 (pn, wb)))).2).2).2).2.1 ≤ 800; omega) (mx := 1) (by omega) (by omega) (fun f11 o11 y11 => ?_))
  refine xK_v rfl ?_
  have p11 := p10.fr (y11 (a + 8) (by omega))
  refine xs_astI 87 r_227_86 (fun _ _ => rfl) rfl rfl rfl (j := (b + 5)) (nI_addE rfl (nI_k 5)) p11 (by omega) (fun f12 p12 y12 => ?_)
  have o12 := (y12 a (by omega)).trans o11
  have F12 := (F10.tr (Fp8.o y11)).tr (Fp8.p y12)
  have b12 := b0.fr (F12 (a + 5) (by omega))
  have n22 := daM_le (Bu := Bu) (tn := tn) (c := 32) (mx := 2) (s := (daM Bu tn 32 1 (daM Bu tn 45 3 (daM Bu tn 32 3 (daM Bu tn 32 2 (daM Bu tn 32 1 (ndM Bu tn 116 (ndM Bu tn 101 (pn, wb)))).2).2).2).2).2)
  refine xs_f 88 r_227_87 rfl ?_
  refine xs_get 91 r_227_88 rfl rfl o12 (by rfl) ?_
  refine xs_f 92 r_227_91 rfl ?_
  refine xs_f 94 r_227_92 rfl ?_
  refine xs_f 95 r_227_94 rfl ?_
  refine xs_f 96 r_227_95 rfl ?_
  refine xs_f 98 r_227_96 rfl ?_
  refine xs_f 99 r_227_98 rfl ?_
  refine xs_call (lv2 := [(0, _), (1, _), (2, _)]) r_227_99 rfl rfl (by decide) (xcan_0 rfl rfl o12 (by rfl)) rfl (m_226 (h := (f12, h.2)) o12 b12 h32 ht (by show (daM Bu tn 32 1 (daM Bu tn 45 3 (daM Bu tn 32 3 (daM Bu tn 32 2 (daM Bu tn 32 1 (ndM Bu tn 116 (ndM Bu tn 101 (pn, wb)))).2).2).2).2).2.1 ≤ 800; omega) (mx := 2) (by omega) (by omega) (fun f13 o13 y13 => ?_))
  refine xK_v rfl ?_
  have p13 := p12.fr (y13 (a + 8) (by omega))
  refine xs_astI 103 r_227_102 (fun _ _ => rfl) rfl rfl rfl (j := (b + 6)) (nI_addE rfl (nI_k 6)) p13 (by omega) (fun f14 p14 y14 => ?_)
  have o14 := (y14 a (by omega)).trans o13
  have F14 := (F12.tr (Fp8.o y13)).tr (Fp8.p y14)
  refine xs_ret r_227_103 rfl ?_
  exact k f14 o14 p14 F14

