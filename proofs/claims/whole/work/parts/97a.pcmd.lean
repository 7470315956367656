/-! the reference reads a command -/
def pcM (Bu : Nat → Int32) (tn pn b : Nat) (Pa : Nat → Int32) : (Nat → Int32) × (Nat × Bool) :=
  if hrM Bu tn pn = 112 then ((xw Pa b (hrM Bu tn pn)), (ndM Bu tn 114 (ndM Bu tn 101 (nd3 Bu tn 108 97 121 (pn + 1, false)))))
  else if hrM Bu tn pn = 111 then (if hrM Bu tn (pn + 1) = 117 then (xw (xw (xw Pa b (hrM Bu tn pn)) b 117) (b + 1) (daM Bu tn 32 1 (ndM Bu tn 116 (ndM Bu tn 117 (pn + 1, false)))).1, (daM Bu tn 32 1 (ndM Bu tn 116 (ndM Bu tn 117 (pn + 1, false)))).2) else (xw (xw Pa b (hrM Bu tn pn)) (b + 1) (daM Bu tn 32 1 (nd3 Bu tn 112 101 110 (pn + 1, false))).1, (daM Bu tn 32 1 (nd3 Bu tn 112 101 110 (pn + 1, false))).2))
  else if hrM Bu tn pn = 98 then ((xw (xw (xw (xw (xw (xw (xw Pa b (hrM Bu tn pn)) (b + 1) (daM Bu tn 32 1 (ndM Bu tn 116 (ndM Bu tn 101 (pn + 1, false)))).1) (b + 2) (daM Bu tn 32 2 (daM Bu tn 32 1 (ndM Bu tn 116 (ndM Bu tn 101 (pn + 1, false)))).2).1) (b + 3) (daM Bu tn 32 3 (daM Bu tn 32 2 (daM Bu tn 32 1 (ndM Bu tn 116 (ndM Bu tn 101 (pn + 1, false)))).2).2).1) (b + 4) (daM Bu tn 45 3 (daM Bu tn 32 3 (daM Bu tn 32 2 (daM Bu tn 32 1 (ndM Bu tn 116 (ndM Bu tn 101 (pn + 1, false)))).2).2).2).1) (b + 5) (daM Bu tn 32 1 (daM Bu tn 45 3 (daM Bu tn 32 3 (daM Bu tn 32 2 (daM Bu tn 32 1 (ndM Bu tn 116 (ndM Bu tn 101 (pn + 1, false)))).2).2).2).2).1) (b + 6) (daM Bu tn 32 2 (daM Bu tn 32 1 (daM Bu tn 45 3 (daM Bu tn 32 3 (daM Bu tn 32 2 (daM Bu tn 32 1 (ndM Bu tn 116 (ndM Bu tn 101 (pn + 1, false)))).2).2).2).2).2).1), (daM Bu tn 32 2 (daM Bu tn 32 1 (daM Bu tn 45 3 (daM Bu tn 32 3 (daM Bu tn 32 2 (daM Bu tn 32 1 (ndM Bu tn 116 (ndM Bu tn 101 (pn + 1, false)))).2).2).2).2).2).2)
  else if hrM Bu tn pn = 115 then (xw (xw Pa b (hrM Bu tn pn)) (b + 1) (daM Bu tn 32 3 (ndM Bu tn 101 (ndM Bu tn 108 (nd3 Bu tn 101 116 116 (pn + 1, false))))).1, (daM Bu tn 32 3 (ndM Bu tn 101 (ndM Bu tn 108 (nd3 Bu tn 101 116 116 (pn + 1, false))))).2)
  else if hrM Bu tn pn = 108 then ((xw Pa b (hrM Bu tn pn)), (ndM Bu tn 114 (nd3 Bu tn 97 116 101 (pn + 1, false))))
  else ((xw Pa b (hrM Bu tn pn)), (pn, true))
theorem xlook5 {k1 k2 k3 k4 k5 : Int} {v1 v2 v3 v4 v5 : Int} {t1 t2 t3 t4 t5 z : Nat} {x : Int} (h1 : x ≠ k1) (h2 : x ≠ k2) (h3 : x ≠ k3) (h4 : x ≠ k4) (h5 : x ≠ k5) : xlook [(k1, v1), (k2, v2), (k3, v3), (k4, v4), (k5, v5)] [t1, t2, t3, t4, t5] z x = z := by
  simp only [xlook, if_neg h1, if_neg h2, if_neg h3, if_neg h4, if_neg h5]
theorem ne_I {x y : Int32} (h : x ≠ y) : x.toInt ≠ y.toInt := fun e => h (Int32.toInt_inj.mp e)
theorem m_229 {S : XSc} {d : Nat} {h : XH} {Q : XO → XH → Prop} {a tn pn : Nat} {ch sv ea fa ol th : Int32} {Bu : Nat → Int32} {Pa : Nat → Int32} {b : Nat} (o0 : h.1 a = some (.inr (9, mO a ch sv (nI tn) ea fa ol th (nI pn) 0))) (b0 : IA h.1 3 (a + 5) 60 Bu) (p0 : IA h.1 0 (a + 8) 420 Pa) (h32 : 32 ≤ a) (ht : tn ≤ 60) (hp : pn ≤ 100) (hb : b + 7 ≤ 420) (k : ∀ f, f a = some (.inr (9, mO a ch sv (nI tn) ea fa ol th (nI (pcM Bu tn pn b Pa).2.1) (bI (pcM Bu tn pn b Pa).2.2))) → IA f 0 (a + 8) 420 (pcM Bu tn pn b Pa).1 → Fp8 h.1 f a → Q (.inl none) (f, h.2)) : xP S (d + 5) 229 0 [(0, .ref a), (1, .int (nI b))] [] h Q := by
  refine xs_f 1 r_229_0 rfl ?_
  refine xs_call (lv2 := [(0, _)]) r_229_1 rfl rfl (by decide) (xcan_0 rfl rfl (by first | assumption | exact xup_s | exact o0 | (refine (xup_n (by omega)).trans ?_; first | assumption | exact xup_s | exact o0) | (refine (xup_n (by omega)).trans ((xup_n (by omega)).trans ?_); first | assumption | exact xup_s | exact o0) | (refine (xup_n (by omega)).trans ((xup_n (by omega)).trans ((xup_n (by omega)).trans ?_)); first | assumption | exact xup_s | exact o0)) (by rfl)) rfl (m_222 o0 b0 h32 ht (by omega) ?_)
  refine xK_v rfl ?_
  refine xs_f 5 (lv2 := [(2, _), (0, _), (1, _)]) r_229_4 rfl ?_
  refine xs_f 6 r_229_5 rfl ?_
  refine xs_f 7 r_229_6 rfl ?_
  refine xs_get 10 r_229_7 rfl rfl (by first | assumption | exact xup_s | exact o0 | (refine (xup_n (by omega)).trans ?_; first | assumption | exact xup_s | exact o0) | (refine (xup_n (by omega)).trans ((xup_n (by omega)).trans ?_); first | assumption | exact xup_s | exact o0) | (refine (xup_n (by omega)).trans ((xup_n (by omega)).trans ((xup_n (by omega)).trans ?_)); first | assumption | exact xup_s | exact o0)) (by rfl) ?_
  refine xs_f 11 r_229_10 rfl ?_
  refine xs_f 12 r_229_11 rfl ?_
  refine xs_putC 15 r_229_12 rfl (by first | assumption | exact xup_s | exact o0 | (refine (xup_n (by omega)).trans ?_; first | assumption | exact xup_s | exact o0) | (refine (xup_n (by omega)).trans ((xup_n (by omega)).trans ?_); first | assumption | exact xup_s | exact o0) | (refine (xup_n (by omega)).trans ((xup_n (by omega)).trans ((xup_n (by omega)).trans ?_)); first | assumption | exact xup_s | exact o0)) (by rfl) (by rfl) (fun f1 x1 y1 => ?_)
  have p1 := p0.fr (y1 (a + 8) (by omega))
  refine xs_f 16 r_229_15 rfl ?_
  refine xs_get 19 r_229_16 rfl rfl x1 (by rfl) ?_
  refine xs_f 20 r_229_19 rfl ?_
  refine xs_f 21 r_229_20 rfl ?_
  refine xs_astI 22 r_229_21 (fun _ _ => rfl) rfl rfl rfl (j := b) rfl p1 (by omega) (fun f2 p2 y2 => ?_)
  refine xs_f 23 r_229_22 rfl ?_
  have o2 : f2 a = some (.inr (9, mO a ch sv (nI tn) ea fa ol th (nI (pn + 1)) (bI false))) := (y2 a (by omega)).trans (x1.trans (by rw [nI_succ]; rfl))
  have F2 := (Fp8.o y1).tr (Fp8.p y2)
  have b2 := b0.fr (F2 (a + 5) (by omega))
  by_cases e1 : hrM Bu tn pn = 112
  · refine xs_f 72 r_229_23 (by rw [e1]; rfl) ?_
    have g0 : ((pn + 1, false) : Nat × Bool).1 = pn + 1 := rfl
    refine xs_f 73 r_229_72 rfl ?_
    refine xs_f 75 r_229_73 rfl ?_
    refine xs_f 77 r_229_75 rfl ?_
    refine xs_f 79 r_229_77 rfl ?_
    refine xs_call (lv2 := [(0, _), (1, _), (2, _), (3, _)]) r_229_79 rfl rfl (by decide) (xcan_0 rfl rfl o2 (by rfl)) rfl (m_224 (h := (f2, h.2)) o2 b2 h32 ht (by omega) (fun f3 o3 y3 => ?_))
    refine xK_0 rfl ?_
    refine xs_f 83 r_229_82 rfl ?_
    refine xs_f 85 r_229_83 rfl ?_
    have F3 := F2.tr (Fp8.o y3)
    have b3 := b0.fr (F3 (a + 5) (by omega))
    have p3 := p2.fr (y3 (a + 8) (by omega))
    have g1a := ndM_le (Bu := Bu) (tn := tn) (c := 108) (s := (pn + 1, false))
    have g1b := ndM_le (Bu := Bu) (tn := tn) (c := 97) (s := (ndM Bu tn 108 (pn + 1, false)))
    have g1c := ndM_le (Bu := Bu) (tn := tn) (c := 121) (s := (ndM Bu tn 97 (ndM Bu tn 108 (pn + 1, false))))
    have g1d : (nd3 Bu tn 108 97 121 (pn + 1, false)).1 = (ndM Bu tn 121 (ndM Bu tn 97 (ndM Bu tn 108 (pn + 1, false)))).1 := rfl
    refine xs_call (lv2 := [(0, _), (1, _)]) r_229_85 rfl rfl (by decide) (xcan_0 rfl rfl o3 (by rfl)) rfl (m_223 (h := (f3, h.2)) o3 b3 h32 ht (by show (nd3 Bu tn 108 97 121 (pn + 1, false)).1 ≤ 100000; omega) (fun f4 o4 y4 => ?_))
    refine xK_0 rfl ?_
    refine xs_f 89 r_229_88 rfl ?_
    refine xs_f 91 r_229_89 rfl ?_
    have F4 := F3.tr (Fp8.o y4)
    have b4 := b0.fr (F4 (a + 5) (by omega))
    have p4 := p3.fr (y4 (a + 8) (by omega))
    have g2 := ndM_le (Bu := Bu) (tn := tn) (c := 101) (s := (nd3 Bu tn 108 97 121 (pn + 1, false)))
    refine xs_call (lv2 := [(0, _), (1, _)]) r_229_91 rfl rfl (by decide) (xcan_0 rfl rfl o4 (by rfl)) rfl (m_223 (h := (f4, h.2)) o4 b4 h32 ht (by show (ndM Bu tn 101 (nd3 Bu tn 108 97 121 (pn + 1, false))).1 ≤ 100000; omega) (fun f5 o5 y5 => ?_))
    refine xK_0 rfl ?_
    refine xs_f 187 r_229_94 rfl ?_
    refine xs_ret r_229_187 rfl ?_
    have F5 := F4.tr (Fp8.o y5)
    have b5 := b0.fr (F5 (a + 5) (by omega))
    have p5 := p4.fr (y5 (a + 8) (by omega))
    have ez : (pcM Bu tn pn b Pa) = ((xw Pa b (hrM Bu tn pn)), (ndM Bu tn 114 (ndM Bu tn 101 (nd3 Bu tn 108 97 121 (pn + 1, false))))) := by
      unfold pcM
      rw [if_pos e1]
    rw [ez] at k
    exact k f5 o5 p5 F5
  by_cases e3 : hrM Bu tn pn = 111
  · refine xs_f 97 r_229_23 (by rw [e3]; rfl) ?_
    refine xs_f 98 r_229_97 rfl ?_
    refine xs_f 99 r_229_98 rfl ?_
    refine xs_call (lv2 := [(0, _), (1, _)]) r_229_99 rfl rfl (by decide) (xcan_0 rfl rfl o2 (by rfl)) rfl (m_228 (h := (f2, h.2)) o2 b2 p2 h32 ht (by omega) hb (fun e2 f3 o3 p3 y3 => ?_) (fun e2 f3 o3 p3 y3 => ?_))
    · have F3 := F2.tr y3
      have ez : (pcM Bu tn pn b Pa) = (xw (xw (xw Pa b (hrM Bu tn pn)) b 117) (b + 1) (daM Bu tn 32 1 (ndM Bu tn 116 (ndM Bu tn 117 (pn + 1, false)))).1, (daM Bu tn 32 1 (ndM Bu tn 116 (ndM Bu tn 117 (pn + 1, false)))).2) := by
        unfold pcM
        rw [if_neg e1, if_pos e3, if_pos e2]
      rw [ez] at k
      
      refine xK_0 rfl ?_
      refine xs_f 187 r_229_102 rfl ?_
      refine xs_ret r_229_187 rfl ?_
      exact k f3 o3 p3 F3
    · have F3 := F2.tr y3
      have ez : (pcM Bu tn pn b Pa) = (xw (xw Pa b (hrM Bu tn pn)) (b + 1) (daM Bu tn 32 1 (nd3 Bu tn 112 101 110 (pn + 1, false))).1, (daM Bu tn 32 1 (nd3 Bu tn 112 101 110 (pn + 1, false))).2) := by
        unfold pcM
        rw [if_neg e1, if_pos e3, if_neg e2]
      rw [ez] at k
      
      refine xK_0 rfl ?_
      refine xs_f 187 r_229_102 rfl ?_
      refine xs_ret r_229_187 rfl ?_
      exact k f3 o3 p3 F3
  by_cases e4 : hrM Bu tn pn = 98
  · refine xs_f 105 r_229_23 (by rw [e4]; rfl) ?_
    refine xs_f 106 r_229_105 rfl ?_
    refine xs_f 107 r_229_106 rfl ?_
    refine xs_call (lv2 := [(0, _), (1, _)]) r_229_107 rfl rfl (by decide) (xcan_0 rfl rfl o2 (by rfl)) rfl (m_227 (h := (f2, h.2)) o2 b2 p2 h32 ht (by omega) hb (fun f3 o3 p3 y3 => ?_))
    refine xK_0 rfl ?_
    refine xs_f 187 r_229_110 rfl ?_
    refine xs_ret r_229_187 rfl ?_
    have F3 := F2.tr y3
    have ez : (pcM Bu tn pn b Pa) = ((xw (xw (xw (xw (xw (xw (xw Pa b (hrM Bu tn pn)) (b + 1) (daM Bu tn 32 1 (ndM Bu tn 116 (ndM Bu tn 101 (pn + 1, false)))).1) (b + 2) (daM Bu tn 32 2 (daM Bu tn 32 1 (ndM Bu tn 116 (ndM Bu tn 101 (pn + 1, false)))).2).1) (b + 3) (daM Bu tn 32 3 (daM Bu tn 32 2 (daM Bu tn 32 1 (ndM Bu tn 116 (ndM Bu tn 101 (pn + 1, false)))).2).2).1) (b + 4) (daM Bu tn 45 3 (daM Bu tn 32 3 (daM Bu tn 32 2 (daM Bu tn 32 1 (ndM Bu tn 116 (ndM Bu tn 101 (pn + 1, false)))).2).2).2).1) (b + 5) (daM Bu tn 32 1 (daM Bu tn 45 3 (daM Bu tn 32 3 (daM Bu tn 32 2 (daM Bu tn 32 1 (ndM Bu tn 116 (ndM Bu tn 101 (pn + 1, false)))).2).2).2).2).1) (b + 6) (daM Bu tn 32 2 (daM Bu tn 32 1 (daM Bu tn 45 3 (daM Bu tn 32 3 (daM Bu tn 32 2 (daM Bu tn 32 1 (ndM Bu tn 116 (ndM Bu tn 101 (pn + 1, false)))).2).2).2).2).2).1), (daM Bu tn 32 2 (daM Bu tn 32 1 (daM Bu tn 45 3 (daM Bu tn 32 3 (daM Bu tn 32 2 (daM Bu tn 32 1 (ndM Bu tn 116 (ndM Bu tn 101 (pn + 1, false)))).2).2).2).2).2).2) := by
      unfold pcM
      rw [if_neg e1, if_neg e3, if_pos e4]
    rw [ez] at k
    exact k f3 o3 p3 F3
  by_cases e5 : hrM Bu tn pn = 115
  · refine xs_f 113 r_229_23 (by rw [e5]; rfl) ?_
    have g0 : ((pn + 1, false) : Nat × Bool).1 = pn + 1 := rfl
    refine xs_f 114 r_229_113 rfl ?_
    refine xs_f 116 r_229_114 rfl ?_
    refine xs_f 118 r_229_116 rfl ?_
    refine xs_f 120 r_229_118 rfl ?_
    refine xs_call (lv2 := [(0, _), (1, _), (2, _), (3, _)]) r_229_120 rfl rfl (by decide) (xcan_0 rfl rfl o2 (by rfl)) rfl (m_224 (h := (f2, h.2)) o2 b2 h32 ht (by omega) (fun f3 o3 y3 => ?_))
    refine xK_0 rfl ?_
    refine xs_f 124 r_229_123 rfl ?_
    refine xs_f 126 r_229_124 rfl ?_
    have F3 := F2.tr (Fp8.o y3)
    have b3 := b0.fr (F3 (a + 5) (by omega))
    have p3 := p2.fr (y3 (a + 8) (by omega))
    have g1a := ndM_le (Bu := Bu) (tn := tn) (c := 101) (s := (pn + 1, false))
    have g1b := ndM_le (Bu := Bu) (tn := tn) (c := 116) (s := (ndM Bu tn 101 (pn + 1, false)))
    have g1c := ndM_le (Bu := Bu) (tn := tn) (c := 116) (s := (ndM Bu tn 116 (ndM Bu tn 101 (pn + 1, false))))
    have g1d : (nd3 Bu tn 101 116 116 (pn + 1, false)).1 = (ndM Bu tn 116 (ndM Bu tn 116 (ndM Bu tn 101 (pn + 1, false)))).1 := rfl
    refine xs_call (lv2 := [(0, _), (1, _)]) r_229_126 rfl rfl (by decide) (xcan_0 rfl rfl o3 (by rfl)) rfl (m_223 (h := (f3, h.2)) o3 b3 h32 ht (by show (nd3 Bu tn 101 116 116 (pn + 1, false)).1 ≤ 100000; omega) (fun f4 o4 y4 => ?_))
    refine xK_0 rfl ?_
    refine xs_f 130 r_229_129 rfl ?_
    refine xs_f 132 r_229_130 rfl ?_
    have F4 := F3.tr (Fp8.o y4)
    have b4 := b0.fr (F4 (a + 5) (by omega))
    have p4 := p3.fr (y4 (a + 8) (by omega))
    have g2 := ndM_le (Bu := Bu) (tn := tn) (c := 108) (s := (nd3 Bu tn 101 116 116 (pn + 1, false)))
    refine xs_call (lv2 := [(0, _), (1, _)]) r_229_132 rfl rfl (by decide) (xcan_0 rfl rfl o4 (by rfl)) rfl (m_223 (h := (f4, h.2)) o4 b4 h32 ht (by show (ndM Bu tn 108 (nd3 Bu tn 101 116 116 (pn + 1, false))).1 ≤ 100000; omega) (fun f5 o5 y5 => ?_))
    refine xK_0 rfl ?_
    have F5 := F4.tr (Fp8.o y5)
    have b5 := b0.fr (F5 (a + 5) (by omega))
    have p5 := p4.fr (y5 (a + 8) (by omega))
    have g3 := ndM_le (Bu := Bu) (tn := tn) (c := 101) (s := (ndM Bu tn 108 (nd3 Bu tn 101 116 116 (pn + 1, false))))
    refine xs_f 136 r_229_135 rfl ?_
    refine xs_get 139 r_229_136 rfl rfl o5 (by rfl) ?_
    refine xs_f 140 r_229_139 rfl ?_
    refine xs_f 141 r_229_140 rfl ?_
    refine xs_f 142 r_229_141 rfl ?_
    refine xs_f 143 r_229_142 rfl ?_
    refine xs_f 145 r_229_143 rfl ?_
    refine xs_f 146 r_229_145 rfl ?_
    refine xs_call (lv2 := [(0, _), (1, _), (2, _)]) r_229_146 rfl rfl (by decide) (xcan_0 rfl rfl o5 (by rfl)) rfl (m_226 (h := (f5, h.2)) o5 b5 h32 ht (by show (ndM Bu tn 101 (ndM Bu tn 108 (nd3 Bu tn 101 116 116 (pn + 1, false)))).1 ≤ 800; omega) (mx := 3) (by omega) (by omega) (fun f6 o6 y6 => ?_))
    refine xK_v rfl ?_
    have p6 := p5.fr (y6 (a + 8) (by omega))
    refine xs_astI 150 r_229_149 (fun _ _ => rfl) rfl rfl rfl (j := (b + 1)) (nI_addE rfl (nI_k 1)) p6 (by omega) (fun f7 p7 y7 => ?_)
    have o7 := (y7 a (by omega)).trans o6
    have F7 := (F5.tr (Fp8.o y6)).tr (Fp8.p y7)
    refine xs_f 187 r_229_150 rfl ?_
    refine xs_ret r_229_187 rfl ?_
    have ez : (pcM Bu tn pn b Pa) = (xw (xw Pa b (hrM Bu tn pn)) (b + 1) (daM Bu tn 32 3 (ndM Bu tn 101 (ndM Bu tn 108 (nd3 Bu tn 101 116 116 (pn + 1, false))))).1, (daM Bu tn 32 3 (ndM Bu tn 101 (ndM Bu tn 108 (nd3 Bu tn 101 116 116 (pn + 1, false))))).2) := by
      unfold pcM
      rw [if_neg e1, if_neg e3, if_neg e4, if_pos e5]
    rw [ez] at k
    exact k f7 o7 p7 F7
  by_cases e6 : hrM Bu tn pn = 108
  · refine xs_f 153 r_229_23 (by rw [e6]; rfl) ?_
    have g0 : ((pn + 1, false) : Nat × Bool).1 = pn + 1 := rfl
    refine xs_f 154 r_229_153 rfl ?_
    refine xs_f 156 r_229_154 rfl ?_
    refine xs_f 158 r_229_156 rfl ?_
    refine xs_f 160 r_229_158 rfl ?_
    refine xs_call (lv2 := [(0, _), (1, _), (2, _), (3, _)]) r_229_160 rfl rfl (by decide) (xcan_0 rfl rfl o2 (by rfl)) rfl (m_224 (h := (f2, h.2)) o2 b2 h32 ht (by omega) (fun f3 o3 y3 => ?_))
    refine xK_0 rfl ?_
    refine xs_f 164 r_229_163 rfl ?_
    refine xs_f 166 r_229_164 rfl ?_
    have F3 := F2.tr (Fp8.o y3)
    have b3 := b0.fr (F3 (a + 5) (by omega))
    have p3 := p2.fr (y3 (a + 8) (by omega))
    have g1a := ndM_le (Bu := Bu) (tn := tn) (c := 97) (s := (pn + 1, false))
    have g1b := ndM_le (Bu := Bu) (tn := tn) (c := 116) (s := (ndM Bu tn 97 (pn + 1, false)))
    have g1c := ndM_le (Bu := Bu) (tn := tn) (c := 101) (s := (ndM Bu tn 116 (ndM Bu tn 97 (pn + 1, false))))
    have g1d : (nd3 Bu tn 97 116 101 (pn + 1, false)).1 = (ndM Bu tn 101 (ndM Bu tn 116 (ndM Bu tn 97 (pn + 1, false)))).1 := rfl
    refine xs_call (lv2 := [(0, _), (1, _)]) r_229_166 rfl rfl (by decide) (xcan_0 rfl rfl o3 (by rfl)) rfl (m_223 (h := (f3, h.2)) o3 b3 h32 ht (by show (nd3 Bu tn 97 116 101 (pn + 1, false)).1 ≤ 100000; omega) (fun f4 o4 y4 => ?_))
    refine xK_0 rfl ?_
    refine xs_f 187 r_229_169 rfl ?_
    refine xs_ret r_229_187 rfl ?_
    have F4 := F3.tr (Fp8.o y4)
    have b4 := b0.fr (F4 (a + 5) (by omega))
    have p4 := p3.fr (y4 (a + 8) (by omega))
    have ez : (pcM Bu tn pn b Pa) = ((xw Pa b (hrM Bu tn pn)), (ndM Bu tn 114 (nd3 Bu tn 97 116 101 (pn + 1, false)))) := by
      unfold pcM
      rw [if_neg e1, if_neg e3, if_neg e4, if_neg e5, if_pos e6]
    rw [ez] at k
    exact k f4 o4 p4 F4
  have l5 : xlook [(98, 82), (108, 130), (111, 74), (112, 49), (115, 90)] [105, 153, 97, 72, 113] 172 (hrM Bu tn pn).toInt = 172 := xlook5 (ne_I e4) (ne_I e6) (ne_I e3) (ne_I e1) (ne_I e5)
  refine xs_f 172 r_229_23 (by show xgoB _ (some (xlook [(98, 82), (108, 130), (111, 74), (112, 49), (115, 90)] [105, 153, 97, 72, 113] 172 (hrM Bu tn pn).toInt, _)) = _; rw [l5]; rfl) ?_
  refine xs_f 173 r_229_172 rfl ?_
  refine xs_f 174 r_229_173 rfl ?_
  refine xs_putC 177 r_229_174 rfl o2 (by rfl) (by rfl) (fun f3 o3 y3 => ?_)
  refine xs_f 178 r_229_177 rfl ?_
  refine xs_f 179 r_229_178 rfl ?_
  refine xs_get 182 r_229_179 rfl rfl o3 (by rfl) ?_
  refine xs_f 183 r_229_182 rfl ?_
  refine xs_f 184 r_229_183 rfl ?_
  refine xs_putC 187 r_229_184 rfl o3 (by rfl) (by rfl) (fun f4 o4 y4 => ?_)
  refine xs_ret r_229_187 rfl ?_
  have o5 : f4 a = some (.inr (9, mO a ch sv (nI tn) ea fa ol th (nI pn) (bI true))) := o4.trans (by show some (Sum.inr (9, mO a ch sv (nI tn) ea fa ol th (nI (pn + 1) - 1) 1)) = _; rw [nI_subE rfl (nI_k 1) (show 1 ≤ pn + 1 by omega)]; rfl)
  have F4 := (F2.tr (Fp8.o y3)).tr (Fp8.o y4)
  have p4 := (p2.fr (y3 (a + 8) (by omega))).fr (y4 (a + 8) (by omega))
  have ez : (pcM Bu tn pn b Pa) = ((xw Pa b (hrM Bu tn pn)), (pn, true)) := by
    unfold pcM
    rw [if_neg e1, if_neg e3, if_neg e4, if_neg e5, if_neg e6]
  rw [ez] at k
  exact k f4 o5 p4 F4

