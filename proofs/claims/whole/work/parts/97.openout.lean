/-! the reference's parser: open, out -/
theorem ml_228 {S : XSc} {d : Nat} {h : XH} {Q : XO → XH → Prop} {a tn pn : Nat} {ch sv ea fa ol th : Int32} {Bu : Nat → Int32} {wb : Bool} {Pa : Nat → Int32} {b : Nat} (o0 : h.1 a = some (.inr (9, mO a ch sv (nI tn) ea fa ol th (nI pn) (bI wb)))) (b0 : IA h.1 3 (a + 5) 60 Bu) (p0 : IA h.1 0 (a + 8) 420 Pa) (h32 : 32 ≤ a) (ht : tn ≤ 60) (hp : pn ≤ 700) (hb : b + 7 ≤ 420) (k : ∀ f, f a = some (.inr (9, mO a ch sv (nI tn) ea fa ol th (nI (daM Bu tn 32 1 (pn, wb)).2.1) (bI (daM Bu tn 32 1 (pn, wb)).2.2))) → IA f 0 (a + 8) 420 (xw Pa (b + 1) (daM Bu tn 32 1 (pn, wb)).1) → Fp8 h.1 f a → Q (.inl none) (f, h.2)) : xP S (d + 3) 228 42 [(0, .ref a), (1, .int (nI b))] [] h Q := by
  refine xs_f 43 r_228_42 rfl ?_
  refine xs_get 46 r_228_43 rfl rfl (by first | assumption | exact xup_s | exact o0 | (refine (xup_n (by omega)).trans ?_; first | assumption | exact xup_s | exact o0) | (refine (xup_n (by omega)).trans ((xup_n (by omega)).trans ?_); first | assumption | exact xup_s | exact o0) | (refine (xup_n (by omega)).trans ((xup_n (by omega)).trans ((xup_n (by omega)).trans ?_)); first | assumption | exact xup_s | exact o0)) (by rfl) ?_
  refine xs_f 47 r_228_46 rfl ?_
  refine xs_f 48 r_228_47 rfl ?_
  refine xs_f 49 r_228_48 rfl ?_
  refine xs_f 50 r_228_49 rfl ?_
  refine xs_f 52 r_228_50 rfl ?_
  refine xs_f 53 r_228_52 rfl ?_
  refine xs_call (lv2 := [(0, _), (1, _), (2, _)]) r_228_53 rfl rfl (by decide) (xcan_0 rfl rfl (by first | assumption | exact xup_s | exact o0 | (refine (xup_n (by omega)).trans ?_; first | assumption | exact xup_s | exact o0) | (refine (xup_n (by omega)).trans ((xup_n (by omega)).trans ?_); first | assumption | exact xup_s | exact o0) | (refine (xup_n (by omega)).trans ((xup_n (by omega)).trans ((xup_n (by omega)).trans ?_)); first | assumption | exact xup_s | exact o0)) (by rfl)) rfl (m_226 o0 b0 h32 ht (by omega) (mx := 1) (by omega) (by omega) (fun f1 o1 y1 => ?_))
  refine xK_v rfl ?_
  have p1 := p0.fr (y1 (a + 8) (by omega))
  refine xs_astI 57 r_228_56 (fun _ _ => rfl) rfl rfl rfl (j := (b + 1)) (nI_addE rfl (nI_k 1)) p1 (by omega) (fun f2 p2 y2 => ?_)
  refine xs_ret r_228_57 rfl ?_
  exact k f2 ((y2 a (by omega)).trans o1) p2 ((Fp8.o y1).tr (Fp8.p y2))

theorem m_228 {S : XSc} {d : Nat} {h : XH} {Q : XO → XH → Prop} {a tn pn : Nat} {ch sv ea fa ol th : Int32} {Bu : Nat → Int32} {wb : Bool} {Pa : Nat → Int32} {b : Nat} (o0 : h.1 a = some (.inr (9, mO a ch sv (nI tn) ea fa ol th (nI pn) (bI wb)))) (b0 : IA h.1 3 (a + 5) 60 Bu) (p0 : IA h.1 0 (a + 8) 420 Pa) (h32 : 32 ≤ a) (ht : tn ≤ 60) (hp : pn ≤ 600) (hb : b + 7 ≤ 420) (kU : hrM Bu tn pn = 117 → ∀ f, f a = some (.inr (9, mO a ch sv (nI tn) ea fa ol th (nI (daM Bu tn 32 1 (ndM Bu tn 116 (ndM Bu tn 117 (pn, wb)))).2.1) (bI (daM Bu tn 32 1 (ndM Bu tn 116 (ndM Bu tn 117 (pn, wb)))).2.2))) → IA f 0 (a + 8) 420 (xw (xw Pa b 117) (b + 1) (daM Bu tn 32 1 (ndM Bu tn 116 (ndM Bu tn 117 (pn, wb)))).1) → Fp8 h.1 f a → Q (.inl none) (f, h.2)) (kP : hrM Bu tn pn ≠ 117 → ∀ f, f a = some (.inr (9, mO a ch sv (nI tn) ea fa ol th (nI (daM Bu tn 32 1 (nd3 Bu tn 112 101 110 (pn, wb))).2.1) (bI (daM Bu tn 32 1 (nd3 Bu tn 112 101 110 (pn, wb))).2.2))) → IA f 0 (a + 8) 420 (xw Pa (b + 1) (daM Bu tn 32 1 (nd3 Bu tn 112 101 110 (pn, wb))).1) → Fp8 h.1 f a → Q (.inl none) (f, h.2)) : xP S (d + 4) 228 0 [(0, .ref a), (1, .int (nI b))] [] h Q := by
  refine xs_f 1 r_228_0 rfl ?_
  refine xs_call (lv2 := [(0, _)]) r_228_1 rfl rfl (by decide) (xcan_0 rfl rfl (by first | assumption | exact xup_s | exact o0 | (refine (xup_n (by omega)).trans ?_; first | assumption | exact xup_s | exact o0) | (refine (xup_n (by omega)).trans ((xup_n (by omega)).trans ?_); first | assumption | exact xup_s | exact o0) | (refine (xup_n (by omega)).trans ((xup_n (by omega)).trans ((xup_n (by omega)).trans ?_)); first | assumption | exact xup_s | exact o0)) (by rfl)) rfl (m_222 o0 b0 h32 ht (by omega) ?_)
  refine xK_v rfl ?_
  refine xs_f 6 r_228_4 rfl ?_
  refine xs_if 9 32 r_228_6 rfl (fun he => ?_) (fun he => ?_)
  · refine xs_f 10 r_228_9 rfl ?_
    refine xs_get 13 r_228_10 rfl rfl (by first | assumption | exact xup_s | exact o0 | (refine (xup_n (by omega)).trans ?_; first | assumption | exact xup_s | exact o0) | (refine (xup_n (by omega)).trans ((xup_n (by omega)).trans ?_); first | assumption | exact xup_s | exact o0) | (refine (xup_n (by omega)).trans ((xup_n (by omega)).trans ((xup_n (by omega)).trans ?_)); first | assumption | exact xup_s | exact o0)) (by rfl) ?_
    refine xs_f 14 r_228_13 rfl ?_
    refine xs_f 16 r_228_14 rfl ?_
    refine xs_astI 17 r_228_16 (fun _ _ => rfl) rfl rfl rfl (j := b) rfl p0 (by omega) (fun f1 p1 y1 => ?_)
    have o1 := (y1 a (by omega)).trans o0
    have b1 := b0.fr (y1 (a + 5) (by omega))
    have n1 := ndM_le (Bu := Bu) (tn := tn) (c := 117) (s := (pn, wb))
    have n2 := ndM_le (Bu := Bu) (tn := tn) (c := 116) (s := ndM Bu tn 117 (pn, wb))
    have n0 : ((pn, wb) : Nat × Bool).1 = pn := rfl
    refine xs_f 18 r_228_17 rfl ?_
    refine xs_f 20 r_228_18 rfl ?_
    refine xs_call (lv2 := [(0, _), (1, _)]) r_228_20 rfl rfl (by decide) (xcan_0 rfl rfl o1 (by rfl)) rfl (m_223 (h := (f1, h.2)) o1 b1 h32 ht (by omega) (fun f2 o2 y2 => ?_))
    refine xK_0 rfl ?_
    have b2 := b1.fr (y2 (a + 5) (by omega))
    refine xs_f 24 r_228_23 rfl ?_
    refine xs_f 26 r_228_24 rfl ?_
    refine xs_call (lv2 := [(0, _), (1, _)]) r_228_26 rfl rfl (by decide) (xcan_0 rfl rfl o2 (by rfl)) rfl (m_223 (h := (f2, h.2)) o2 b2 h32 ht (by omega) (fun f3 o3 y3 => ?_))
    refine xK_0 rfl ?_
    refine xs_f 42 r_228_29 rfl ?_
    exact ml_228 (h := (f3, h.2)) o3 (b2.fr (y3 (a + 5) (by omega))) ((p1.fr (y2 (a + 8) (by omega))).fr (y3 (a + 8) (by omega))) h32 ht (by show (ndM Bu tn 116 (ndM Bu tn 117 (pn, wb))).1 ≤ 700; omega) hb (fun f o p F => kU he f o p ((((Fp8.p y1).tr (Fp8.o y2)).tr (Fp8.o y3)).tr F))
  · have n1 := ndM_le (Bu := Bu) (tn := tn) (c := 112) (s := (pn, wb))
    have n2 := ndM_le (Bu := Bu) (tn := tn) (c := 101) (s := ndM Bu tn 112 (pn, wb))
    have n3 := ndM_le (Bu := Bu) (tn := tn) (c := 110) (s := ndM Bu tn 101 (ndM Bu tn 112 (pn, wb)))
    have n0 : ((pn, wb) : Nat × Bool).1 = pn := rfl
    refine xs_f 33 r_228_32 rfl ?_
    refine xs_f 35 r_228_33 rfl ?_
    refine xs_f 37 r_228_35 rfl ?_
    refine xs_f 39 r_228_37 rfl ?_
    refine xs_call (lv2 := [(0, _), (1, _), (2, _), (3, _)]) r_228_39 rfl rfl (by decide) (xcan_0 rfl rfl (by first | assumption | exact xup_s | exact o0 | (refine (xup_n (by omega)).trans ?_; first | assumption | exact xup_s | exact o0) | (refine (xup_n (by omega)).trans ((xup_n (by omega)).trans ?_); first | assumption | exact xup_s | exact o0) | (refine (xup_n (by omega)).trans ((xup_n (by omega)).trans ((xup_n (by omega)).trans ?_)); first | assumption | exact xup_s | exact o0)) (by rfl)) rfl (m_224 o0 b0 h32 ht (by omega) (fun f1 o1 y1 => ?_))
    refine xK_0 rfl ?_
    exact ml_228 (h := (f1, h.2)) o1 (b0.fr (y1 (a + 5) (by omega))) (p0.fr (y1 (a + 8) (by omega))) h32 ht (by show (ndM Bu tn 110 (ndM Bu tn 101 (ndM Bu tn 112 (pn, wb)))).1 ≤ 700; omega) hb (fun f o p F => kP he f o p ((Fp8.o y1).tr F))

