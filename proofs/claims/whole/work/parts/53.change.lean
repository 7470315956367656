/-! the reference's changes -/
def Fm (f g : Nat → Option XE) (a : Nat) : Prop := ∀ c, (c ≠ a ∧ c ≠ a + 1) → g c = f c
theorem Fm.wd {f g : Nat → Option XE} {a lo hi : Nat} (h : Fm f g a) (h1 : lo ≤ a) (h2 : a + 2 ≤ hi) : Fr f g lo hi := fun c hc => h c (by omega)
theorem Fm.rf {f : Nat → Option XE} {a : Nat} : Fm f f a := fun _ _ => rfl
theorem Fm.tr {f g k : Nat → Option XE} {a : Nat} (h : Fm f g a) (h2 : Fm g k a) : Fm f k a := fun c hc => (h2 c hc).trans (h c hc)
theorem Fm.w {f g k : Nat → Option XE} {a x : Nat} (h : Fm f g a) (y : Fr g k x (x + 1)) (hx : x = a ∨ x = a + 1) : Fm f k a := fun c hc => (y c (by omega)).trans (h c hc)
theorem mF {Q : XO → XH → Prop} {h : XH} {a : Nat} {G : Nat → Int32} {ch sv ty ea fa ol sp wr : Int32} {c c2 : Nat} (k : c ≠ 0 → ∀ f, f a = some (.inr (9, mO a ch sv ty ea fa ol (nI c) sp wr)) → IA f 0 (a + 1) 288 G → Fm h.1 f a → Q (.inl (some (.int 0))) (f, h.2)) (e : c = c2) (h0 : c2 ≠ 0) {f : Nat → Option XE} (o : f a = some (.inr (9, mO a ch sv ty ea fa ol (nI c2) sp wr))) (g : IA f 0 (a + 1) 288 G) (y : Fm h.1 f a) : Q (.inl (some (.int 0))) (f, h.2) := by
  subst e
  exact k h0 f o g y
def cJoin (np : Nat) : Nat := if np = 5 then 1 else 0
theorem m_161 {S : XSc} {d : Nat} {h : XH} {Q : XO → XH → Prop} {a : Nat} {G : Nat → Int32} {np no : Nat} {mn : Nat → Nat} {ch sv ty ea fa ol th sp wr : Int32} (o0 : h.1 a = some (.inr (9, mO a ch sv ty ea fa ol th sp wr))) (g0 : IA h.1 0 (a + 1) 288 G) (hG : WG G np no mn) (h32 : 32 ≤ a)  (kF : (cJoin np) ≠ 0 → ∀ f, f a = some (.inr (9, mO a ch sv ty ea fa ol (nI (cJoin np)) sp wr)) → IA f 0 (a + 1) 288 G → Fm h.1 f a → Q (.inl (some (.int 0))) (f, h.2)) (kS : cJoin np = 0 → ∀ f, f a = some (.inr (9, mO a ch sv ty ea fa ol 0 sp wr)) → IA f 0 (a + 1) 288 (xw (xw G (10 + np) 100) 0 (nI (np + 1))) → Fm h.1 f a → Q (.inl (some (.int (nI np)))) (f, h.2)) : xP S (d + 1) 161 0 [(0, .ref a)] [] h Q := by
  have np5 := hG.1.2
  have no6 := hG.2.1.2
  refine xs_f 1 r_161_0 rfl ?_
  refine xs_get 4 r_161_1 rfl rfl (by first | assumption | exact o0) (by rfl) ?_
  refine xs_f 5 r_161_4 rfl ?_
  refine xs_aldI 6 r_161_5 (fun _ _ => rfl) rfl rfl rfl (j := 0) (nI_k 0) g0 (by omega) ?_
  (repeat first | rw [xw_s] | rw [xw_n (by omega)])
  first | rw [hG.1.1] | skip
  refine xs_f 7 (lv2 := [(1, _), (0, _)]) r_161_6 rfl ?_
  refine xs_f 8 r_161_7 rfl ?_
  refine xs_f 9 r_161_8 rfl ?_
  refine xs_if 12 18 r_161_9 rfl (fun hc1 => ?_) (fun hc1 => ?_)
  · have hc1 := (nI_eqN rfl (nI_k 5) (by omega) (by omega)).mp hc1
    refine xs_f 13 r_161_12 rfl ?_
    refine xs_f 14 r_161_13 rfl ?_
    refine xs_call (lv2 := [(0, _), (1, _)]) r_161_14 rfl rfl (by decide) (xcan_0 rfl rfl (by first | assumption | exact o0) (by rfl)) rfl ?_
    refine xs_f 1 r_153_0 rfl ?_
    refine xs_f 2 r_153_1 rfl ?_
    refine xs_putC 5 r_153_2 rfl o0 (by rfl) (by rfl) (fun f1 o1 y1 => ?_)
    have g2 := g0.fr (y1 _ (by omega))
    have Y3 := (Fm.rf : Fm h.1 h.1 a).w y1 (by omega)
    refine xs_f 6 r_153_5 rfl ?_
    refine xs_ret r_153_6 rfl ?_
    refine xK_v rfl ?_
    refine xs_ret r_161_17 rfl ?_
    first
      | exact mF kF (if_pos (by omega)) (by decide) o1 g2 Y3
      | exact kS (if_neg (by omega)) _ o1 (by rw [nI_succ]; exact g2) Y3
  · have hc1 := mt (nI_eqN rfl (nI_k 5) (by omega) (by omega)).mpr hc1
    refine xs_f 19 r_161_18 rfl ?_
    refine xs_get 22 r_161_19 rfl rfl (by first | assumption | exact o0) (by rfl) ?_
    refine xs_f 24 r_161_22 rfl ?_
    refine xs_f 25 r_161_24 rfl ?_
    refine xs_f 26 r_161_25 rfl ?_
    refine xs_f 28 r_161_26 rfl ?_
    refine xs_astI 29 r_161_28 (fun _ _ => rfl) rfl rfl rfl (j := (10 + np)) (nI_addE (nI_k 10) rfl) g0 (by omega) (fun f4 g4 y4 => ?_)
    have o5 := (y4 _ (by omega)).trans o0
    have Y6 := (Fm.rf : Fm h.1 h.1 a).w y4 (by omega)
    refine xs_f 30 r_161_29 rfl ?_
    refine xs_get 33 r_161_30 rfl rfl (by first | assumption | exact o5) (by rfl) ?_
    refine xs_f 34 r_161_33 rfl ?_
    refine xs_f 35 r_161_34 rfl ?_
    refine xs_aldI 36 r_161_35 (fun _ _ => rfl) rfl rfl rfl (j := 0) (nI_k 0) g4 (by omega) ?_
    (repeat first | rw [xw_s] | rw [xw_n (by omega)])
    first | rw [hG.1.1] | skip
    refine xs_f 37 r_161_36 rfl ?_
    refine xs_f 38 r_161_37 rfl ?_
    refine xs_astI 39 r_161_38 (fun _ _ => rfl) rfl rfl rfl (j := 0) (nI_k 0) g4 (by omega) (fun f7 g7 y7 => ?_)
    have o8 := (y7 _ (by omega)).trans o5
    have Y9 := Y6.w y7 (by omega)
    refine xs_f 40 r_161_39 rfl ?_
    refine xs_f 41 r_161_40 rfl ?_
    refine xs_call (lv2 := [(0, _), (1, _)]) r_161_41 rfl rfl (by decide) (xcan_0 rfl rfl (by first | assumption | exact o8) (by rfl)) rfl ?_
    refine xs_f 1 r_152_0 rfl ?_
    refine xs_f 2 r_152_1 rfl ?_
    refine xs_putC 5 r_152_2 rfl o8 (by rfl) (by rfl) (fun f10 o10 y10 => ?_)
    have g11 := g7.fr (y10 _ (by omega))
    have Y12 := Y9.w y10 (by omega)
    refine xs_f 6 r_152_5 rfl ?_
    refine xs_ret r_152_6 rfl ?_
    refine xK_v rfl ?_
    refine xs_ret r_161_44 rfl ?_
    first
      | exact mF kF (if_pos (by omega)) (by decide) o10 g11 Y12
      | exact kS (if_neg (by omega)) _ o10 (by rw [nI_succ]; exact g11) Y12

def cAsk (no : Nat) (w : Int32) : Nat := if 1 ≤ w ∧ w ≤ 3 then (if no = 6 then 2 else 0) else 1
def gAsk (G : Nat → Int32) (no : Nat) (w : Int32) : Nat → Int32 := xw (xw (xw (xw (xw G (120 + no) (G 2)) (126 + no) w) (132 + no) 0) 1 (nI (no + 1))) 2 (G 2 + 1)
theorem m_163 {S : XSc} {d : Nat} {h : XH} {Q : XO → XH → Prop} {a : Nat} {G : Nat → Int32} {np no : Nat} {mn : Nat → Nat} {ch sv ty ea fa ol th sp wr : Int32} (o0 : h.1 a = some (.inr (9, mO a ch sv ty ea fa ol th sp wr))) (g0 : IA h.1 0 (a + 1) 288 G) (hG : WG G np no mn) (h32 : 32 ≤ a) {w : Int32} (kF : (cAsk no w) ≠ 0 → ∀ f, f a = some (.inr (9, mO a ch sv ty ea fa ol (nI (cAsk no w)) sp wr)) → IA f 0 (a + 1) 288 G → Fm h.1 f a → Q (.inl (some (.int 0))) (f, h.2)) (kS : cAsk no w = 0 → ∀ f, f a = some (.inr (9, mO a ch sv ty ea fa ol 0 sp wr)) → IA f 0 (a + 1) 288 (gAsk G no w) → Fm h.1 f a → Q (.inl (some (.int (G 2)))) (f, h.2)) : xP S (d + 1) 163 0 [(0, .ref a), (1, .int w)] [] h Q := by
  have np5 := hG.1.2
  have no6 := hG.2.1.2
  refine xs_f 1 r_163_0 rfl ?_
  refine xs_f 2 r_163_1 rfl ?_
  refine xs_f 3 r_163_2 rfl ?_
  refine xs_call (lv2 := [(0, _), (1, _), (2, _)]) r_163_3 rfl rfl (by decide) (xcan_1 rfl) rfl (m_150 (fun hb => ?_) (fun hb => ?_))
  · refine xK_v rfl ?_
    refine xs_f 15 r_163_6 rfl ?_
    refine xs_f 16 r_163_15 rfl ?_
    refine xs_get 19 r_163_16 rfl rfl (by first | assumption | exact o0) (by rfl) ?_
    refine xs_f 20 r_163_19 rfl ?_
    refine xs_aldI 21 r_163_20 (fun _ _ => rfl) rfl rfl rfl (j := 1) (nI_k 1) g0 (by omega) ?_
    (repeat first | rw [xw_s] | rw [xw_n (by omega)])
    first | rw [hG.2.1.1] | skip
    refine xs_f 22 (lv2 := [(2, _), (0, _), (1, _)]) r_163_21 rfl ?_
    refine xs_f 23 r_163_22 rfl ?_
    refine xs_f 25 r_163_23 rfl ?_
    refine xs_if 28 34 r_163_25 rfl (fun hc1 => ?_) (fun hc1 => ?_)
    · have hc1 := (nI_eqN rfl (nI_k 6) (by omega) (by omega)).mp hc1
      refine xs_f 29 r_163_28 rfl ?_
      refine xs_f 30 r_163_29 rfl ?_
      refine xs_call (lv2 := [(0, _), (1, _)]) r_163_30 rfl rfl (by decide) (xcan_0 rfl rfl (by first | assumption | exact o0) (by rfl)) rfl ?_
      refine xs_f 1 r_153_0 rfl ?_
      refine xs_f 2 r_153_1 rfl ?_
      refine xs_putC 5 r_153_2 rfl o0 (by rfl) (by rfl) (fun f1 o1 y1 => ?_)
      have g2 := g0.fr (y1 _ (by omega))
      have Y3 := (Fm.rf : Fm h.1 h.1 a).w y1 (by omega)
      refine xs_f 6 r_153_5 rfl ?_
      refine xs_ret r_153_6 rfl ?_
      refine xK_v rfl ?_
      refine xs_ret r_163_33 rfl ?_
      first
        | exact mF kF (if_neg hb) (by decide) o1 g2 Y3
        | exact mF kF ((if_pos hb).trans (if_pos (by omega))) (by decide) o1 g2 Y3
        | exact kS ((if_pos hb).trans (if_neg (by omega))) _ o1 (by unfold gAsk; rw [nI_succ]; exact g2) Y3
    · have hc1 := mt (nI_eqN rfl (nI_k 6) (by omega) (by omega)).mpr hc1
      refine xs_f 35 r_163_34 rfl ?_
      refine xs_get 38 r_163_35 rfl rfl (by first | assumption | exact o0) (by rfl) ?_
      refine xs_f 40 r_163_38 rfl ?_
      refine xs_f 41 r_163_40 rfl ?_
      refine xs_f 42 r_163_41 rfl ?_
      refine xs_f 43 r_163_42 rfl ?_
      refine xs_get 46 r_163_43 rfl rfl (by first | assumption | exact o0) (by rfl) ?_
      refine xs_f 47 r_163_46 rfl ?_
      refine xs_aldI 48 r_163_47 (fun _ _ => rfl) rfl rfl rfl (j := 2) (nI_k 2) g0 (by omega) ?_
      (repeat first | rw [xw_s] | rw [xw_n (by omega)])
      skip
      refine xs_astI 49 r_163_48 (fun _ _ => rfl) rfl rfl rfl (j := (120 + no)) (nI_addE (nI_k 120) rfl) g0 (by omega) (fun f4 g4 y4 => ?_)
      have o5 := (y4 _ (by omega)).trans o0
      have Y6 := (Fm.rf : Fm h.1 h.1 a).w y4 (by omega)
      refine xs_f 50 r_163_49 rfl ?_
      refine xs_get 53 r_163_50 rfl rfl (by first | assumption | exact o5) (by rfl) ?_
      refine xs_f 55 r_163_53 rfl ?_
      refine xs_f 56 r_163_55 rfl ?_
      refine xs_f 57 r_163_56 rfl ?_
      refine xs_f 58 r_163_57 rfl ?_
      refine xs_astI 59 r_163_58 (fun _ _ => rfl) rfl rfl rfl (j := (126 + no)) (nI_addE (nI_k 126) rfl) g4 (by omega) (fun f7 g7 y7 => ?_)
      have o8 := (y7 _ (by omega)).trans o5
      have Y9 := Y6.w y7 (by omega)
      refine xs_f 60 r_163_59 rfl ?_
      refine xs_get 63 r_163_60 rfl rfl (by first | assumption | exact o8) (by rfl) ?_
      refine xs_f 66 r_163_63 rfl ?_
      refine xs_f 67 r_163_66 rfl ?_
      refine xs_f 68 r_163_67 rfl ?_
      refine xs_f 69 r_163_68 rfl ?_
      refine xs_astI 70 r_163_69 (fun _ _ => rfl) rfl rfl rfl (j := (132 + no)) (nI_addE (nI_k 132) rfl) g7 (by omega) (fun f10 g10 y10 => ?_)
      have o11 := (y10 _ (by omega)).trans o8
      have Y12 := Y9.w y10 (by omega)
      refine xs_f 71 r_163_70 rfl ?_
      refine xs_get 74 r_163_71 rfl rfl (by first | assumption | exact o11) (by rfl) ?_
      refine xs_f 75 r_163_74 rfl ?_
      refine xs_f 76 r_163_75 rfl ?_
      refine xs_aldI 77 r_163_76 (fun _ _ => rfl) rfl rfl rfl (j := 1) (nI_k 1) g10 (by omega) ?_
      (repeat first | rw [xw_s] | rw [xw_n (by omega)])
      first | rw [hG.2.1.1] | skip
      refine xs_f 78 r_163_77 rfl ?_
      refine xs_f 79 r_163_78 rfl ?_
      refine xs_astI 80 r_163_79 (fun _ _ => rfl) rfl rfl rfl (j := 1) (nI_k 1) g10 (by omega) (fun f13 g13 y13 => ?_)
      have o14 := (y13 _ (by omega)).trans o11
      have Y15 := Y12.w y13 (by omega)
      refine xs_f 81 r_163_80 rfl ?_
      refine xs_get 84 r_163_81 rfl rfl (by first | assumption | exact o14) (by rfl) ?_
      refine xs_f 85 r_163_84 rfl ?_
      refine xs_f 86 r_163_85 rfl ?_
      refine xs_aldI 87 r_163_86 (fun _ _ => rfl) rfl rfl rfl (j := 2) (nI_k 2) g13 (by omega) ?_
      (repeat first | rw [xw_s] | rw [xw_n (by omega)])
      skip
      refine xs_f 88 r_163_87 rfl ?_
      refine xs_f 89 r_163_88 rfl ?_
      refine xs_astI 90 r_163_89 (fun _ _ => rfl) rfl rfl rfl (j := 2) (nI_k 2) g13 (by omega) (fun f16 g16 y16 => ?_)
      have o17 := (y16 _ (by omega)).trans o14
      have Y18 := Y15.w y16 (by omega)
      refine xs_f 91 r_163_90 rfl ?_
      refine xs_f 92 r_163_91 rfl ?_
      refine xs_get 95 r_163_92 rfl rfl (by first | assumption | exact o17) (by rfl) ?_
      refine xs_f 97 r_163_95 rfl ?_
      refine xs_f 98 r_163_97 rfl ?_
      refine xs_f 99 r_163_98 rfl ?_
      refine xs_aldI 100 r_163_99 (fun _ _ => rfl) rfl rfl rfl (j := (120 + no)) (nI_addE (nI_k 120) rfl) g16 (by omega) ?_
      (repeat first | rw [xw_s] | rw [xw_n (by omega)])
      skip
      refine xs_call (lv2 := [(0, _), (1, _)]) r_163_100 rfl rfl (by decide) (xcan_0 rfl rfl (by first | assumption | exact o17) (by rfl)) rfl ?_
      refine xs_f 1 r_152_0 rfl ?_
      refine xs_f 2 r_152_1 rfl ?_
      refine xs_putC 5 r_152_2 rfl o17 (by rfl) (by rfl) (fun f19 o19 y19 => ?_)
      have g20 := g16.fr (y19 _ (by omega))
      have Y21 := Y18.w y19 (by omega)
      refine xs_f 6 r_152_5 rfl ?_
      refine xs_ret r_152_6 rfl ?_
      refine xK_v rfl ?_
      refine xs_ret r_163_103 rfl ?_
      first
        | exact mF kF (if_neg hb) (by decide) o19 g20 Y21
        | exact mF kF ((if_pos hb).trans (if_pos (by omega))) (by decide) o19 g20 Y21
        | exact kS ((if_pos hb).trans (if_neg (by omega))) _ o19 (by unfold gAsk; rw [nI_succ]; exact g20) Y21
  · refine xK_v rfl ?_
    refine xs_f 9 r_163_6 rfl ?_
    refine xs_f 10 r_163_9 rfl ?_
    refine xs_f 11 r_163_10 rfl ?_
    refine xs_call (lv2 := [(0, _), (1, _)]) r_163_11 rfl rfl (by decide) (xcan_0 rfl rfl (by first | assumption | exact o0) (by rfl)) rfl ?_
    refine xs_f 1 r_153_0 rfl ?_
    refine xs_f 2 r_153_1 rfl ?_
    refine xs_putC 5 r_153_2 rfl o0 (by rfl) (by rfl) (fun f22 o22 y22 => ?_)
    have g23 := g0.fr (y22 _ (by omega))
    have Y24 := (Fm.rf : Fm h.1 h.1 a).w y22 (by omega)
    refine xs_f 6 r_153_5 rfl ?_
    refine xs_ret r_153_6 rfl ?_
    refine xK_v rfl ?_
    refine xs_ret r_163_14 rfl ?_
    first
      | exact mF kF (if_neg hb) (by decide) o22 g23 Y24
      | exact mF kF ((if_pos hb).trans (if_pos (by omega))) (by decide) o22 g23 Y24
      | exact kS ((if_pos hb).trans (if_neg (by omega))) _ o22 (by unfold gAsk; rw [nI_succ]; exact g23) Y24

def gBet (G : Nat → Int32) (i j m : Nat) (lo hi c s : Int32) : Nat → Int32 := xw (xw (xw (xw (xw (xw (xw G (138 + 25 * j + 5 * m + 0) (nI i)) (138 + 25 * j + 5 * m + 1) lo) (138 + 25 * j + 5 * m + 2) hi) (138 + 25 * j + 5 * m + 3) c) (138 + 25 * j + 5 * m + 4) s) (132 + j) (nI (m + 1))) (10 + i) (G (10 + i) - s)
theorem m_165 {S : XSc} {d : Nat} {h : XH} {Q : XO → XH → Prop} {lo hi c s : Int32} (k1 : betOK lo hi c s → Q (.inl (some (.int 1))) h) (k0 : ¬ betOK lo hi c s → Q (.inl (some (.int 0))) h) : xP S (d + 1) 165 0 [(0, .int lo), (1, .int hi), (2, .int c), (3, .int s)] [] h Q := by
  refine xs_f 1 r_165_0 rfl ?_
  refine xs_f 2 r_165_1 rfl ?_
  refine xs_f 5 r_165_2 rfl ?_
  refine xs_call (lv2 := [(0, _), (1, _), (2, _)]) r_165_5 rfl rfl (by decide) (xcan_1 rfl) rfl (m_150 (fun g1 => ?_) (fun g1 => ?_))
  · refine xK_v rfl ?_
    refine xs_f 11 r_165_8 rfl ?_
    refine xs_f 12 r_165_11 rfl ?_
    refine xs_f 13 r_165_12 rfl ?_
    refine xs_f 16 r_165_13 rfl ?_
    refine xs_call (lv2 := [(0, _), (1, _), (2, _)]) r_165_16 rfl rfl (by decide) (xcan_1 rfl) rfl (m_150 (fun g2 => ?_) (fun g2 => ?_))
    · refine xK_v rfl ?_
      refine xs_f 22 r_165_19 rfl ?_
      refine xs_f 23 r_165_22 rfl ?_
      refine xs_f 24 r_165_23 rfl ?_
      refine xs_f 26 r_165_24 rfl ?_
      refine xs_call (lv2 := [(0, _), (1, _), (2, _)]) r_165_26 rfl rfl (by decide) (xcan_1 rfl) rfl (m_150 (fun g3 => ?_) (fun g3 => ?_))
      · refine xK_v rfl ?_
        refine xs_f 32 r_165_29 rfl ?_
        refine xs_f 33 r_165_32 rfl ?_
        refine xs_f 34 r_165_33 rfl ?_
        refine xs_f 36 r_165_34 rfl ?_
        refine xs_call (lv2 := [(0, _), (1, _), (2, _)]) r_165_36 rfl rfl (by decide) (xcan_1 rfl) rfl (m_150 (fun g4 => ?_) (fun g4 => ?_))
        · refine xK_v rfl ?_
          refine xs_f 42 r_165_39 rfl ?_
          refine xs_f 43 r_165_42 rfl ?_
          refine xs_f 47 r_165_43 rfl ?_
          refine xs_ret r_165_47 rfl ?_
          first
            | exact k1 ⟨g1, ⟨Int32.le_trans g1.1 g2.1, g2.2⟩, g2.1, g3, g4.1, g4.2⟩
            | exact k0 (fun z => g1 z.1)
            | exact k0 (fun z => g2 ⟨z.2.2.1, z.2.1.2⟩)
            | exact k0 (fun z => g3 z.2.2.2.1)
            | exact k0 (fun z => g4 ⟨z.2.2.2.2.1, z.2.2.2.2.2⟩)
        · refine xK_v rfl ?_
          refine xs_f 46 r_165_39 rfl ?_
          refine xs_f 47 r_165_46 rfl ?_
          refine xs_ret r_165_47 rfl ?_
          first
            | exact k1 ⟨g1, ⟨Int32.le_trans g1.1 g2.1, g2.2⟩, g2.1, g3, g4.1, g4.2⟩
            | exact k0 (fun z => g1 z.1)
            | exact k0 (fun z => g2 ⟨z.2.2.1, z.2.1.2⟩)
            | exact k0 (fun z => g3 z.2.2.2.1)
            | exact k0 (fun z => g4 ⟨z.2.2.2.2.1, z.2.2.2.2.2⟩)
      · refine xK_v rfl ?_
        refine xs_f 46 r_165_29 rfl ?_
        refine xs_f 47 r_165_46 rfl ?_
        refine xs_ret r_165_47 rfl ?_
        first
          | exact k1 ⟨g1, ⟨Int32.le_trans g1.1 g2.1, g2.2⟩, g2.1, g3, g4.1, g4.2⟩
          | exact k0 (fun z => g1 z.1)
          | exact k0 (fun z => g2 ⟨z.2.2.1, z.2.1.2⟩)
          | exact k0 (fun z => g3 z.2.2.2.1)
          | exact k0 (fun z => g4 ⟨z.2.2.2.2.1, z.2.2.2.2.2⟩)
    · refine xK_v rfl ?_
      refine xs_f 46 r_165_19 rfl ?_
      refine xs_f 47 r_165_46 rfl ?_
      refine xs_ret r_165_47 rfl ?_
      first
        | exact k1 ⟨g1, ⟨Int32.le_trans g1.1 g2.1, g2.2⟩, g2.1, g3, g4.1, g4.2⟩
        | exact k0 (fun z => g1 z.1)
        | exact k0 (fun z => g2 ⟨z.2.2.1, z.2.1.2⟩)
        | exact k0 (fun z => g3 z.2.2.2.1)
        | exact k0 (fun z => g4 ⟨z.2.2.2.2.1, z.2.2.2.2.2⟩)
  · refine xK_v rfl ?_
    refine xs_f 46 r_165_8 rfl ?_
    refine xs_f 47 r_165_46 rfl ?_
    refine xs_ret r_165_47 rfl ?_
    first
      | exact k1 ⟨g1, ⟨Int32.le_trans g1.1 g2.1, g2.2⟩, g2.1, g3, g4.1, g4.2⟩
      | exact k0 (fun z => g1 z.1)
      | exact k0 (fun z => g2 ⟨z.2.2.1, z.2.1.2⟩)
      | exact k0 (fun z => g3 z.2.2.2.1)
      | exact k0 (fun z => g4 ⟨z.2.2.2.2.1, z.2.2.2.2.2⟩)

theorem m_166 {S : XSc} {d : Nat} {h : XH} {Q : XO → XH → Prop} {a : Nat} {G : Nat → Int32} {np no : Nat} {mn : Nat → Nat} {ch sv ty ea fa ol th sp wr : Int32} (o0 : h.1 a = some (.inr (9, mO a ch sv ty ea fa ol th sp wr))) (g0 : IA h.1 0 (a + 1) 288 G) (hG : WG G np no mn) (h32 : 32 ≤ a) {p n lo hi c s : Int32} (hrm : ∀ i j, i < np → j < no → rnk (gE G j) (mn j) (nI i) = mn j → mn j < 5) (kF : (betF np no (gP G) (gQ G mn) p n lo hi c s) ≠ 0 → ∀ f, f a = some (.inr (9, mO a ch sv ty ea fa ol (nI (betF np no (gP G) (gQ G mn) p n lo hi c s)) sp wr)) → IA f 0 (a + 1) 288 G → Fm h.1 f a → Q (.inl (some (.int 0))) (f, h.2)) (kS : (betF np no (gP G) (gQ G mn) p n lo hi c s) = 0 → ∀ i, i < np → p = nI i → (pla (gQ G mn) no n) < no → mn (pla (gQ G mn) no n) < 5 → ∀ f, f a = some (.inr (9, mO a ch sv ty ea fa ol 0 sp wr)) → IA f 0 (a + 1) 288 (gBet G i (pla (gQ G mn) no n) (mn (pla (gQ G mn) no n)) lo hi c s) → Fm h.1 f a → Q (.inl (some (.int (G (10 + i) - s)))) (f, h.2)) : xP S (d + 2) 166 0 [(0, .ref a), (1, .int p), (2, .int n), (3, .int lo), (4, .int hi), (5, .int c), (6, .int s)] [] h Q := by
  have np5 := hG.1.2
  have no6 := hG.2.1.2
  refine xs_f 1 r_166_0 rfl ?_
  refine xs_f 2 r_166_1 rfl ?_
  refine xs_call (lv2 := [(0, _), (1, _)]) r_166_2 rfl rfl (by decide) (xcan_0 rfl rfl (by first | assumption | exact o0) (by rfl)) rfl (m_157 o0 g0 hG h32 (fun hp => ?_) (fun hp => ?_))
  · obtain ⟨i, hi, hpi, hcl⟩ := isPl_c hp (by have := hG.1.2; omega)
    have np5 := hG.1.2
    refine xK_v rfl ?_
    refine xs_f 14 r_166_5 rfl ?_
    refine xs_f 15 r_166_14 rfl ?_
    refine xs_f 16 r_166_15 rfl ?_
    refine xs_call (lv2 := [(0, _), (1, _)]) r_166_16 rfl rfl (by decide) (xcan_0 rfl rfl (by first | assumption | exact o0) (by rfl)) rfl (m_158 o0 g0 hG h32 (fun hq => ?_) (fun hq => ?_))
    · have no6 := hG.2.1.2
      have mn5 := (hG.2.2 (pla (gQ G mn) no n) (by omega)).2
      refine xK_v rfl ?_
      refine xs_f 21 (lv2 := [(7, _), (0, _), (1, _), (2, _), (3, _), (4, _), (5, _), (6, _)]) r_166_19 rfl ?_
      refine xs_f 23 r_166_21 rfl ?_
      refine xs_f 24 r_166_23 rfl ?_
      refine xs_if 27 33 r_166_24 rfl (fun hc1 => ?_) (fun hc1 => ?_)
      · exact absurd hc1 (nI_m1 rfl (by omega))
      · refine xs_f 34 r_166_33 rfl ?_
        refine xs_f 36 r_166_34 rfl ?_
        refine xs_f 38 r_166_36 rfl ?_
        refine xs_f 40 r_166_38 rfl ?_
        refine xs_call (lv2 := [(0, _), (1, _), (2, _), (3, _)]) r_166_40 rfl rfl (by decide) (xcan_1 rfl) rfl (m_165 (fun hk => ?_) (fun hk => ?_))
        · refine xK_v rfl ?_
          refine xs_f 52 r_166_43 rfl ?_
          refine xs_f 53 r_166_52 rfl ?_
          refine xs_get 56 r_166_53 rfl rfl (by first | assumption | exact o0) (by rfl) ?_
          refine xs_f 58 r_166_56 rfl ?_
          refine xs_f 59 r_166_58 rfl ?_
          refine xs_f 60 r_166_59 rfl ?_
          refine xs_aldI 61 r_166_60 (fun _ _ => rfl) rfl rfl rfl (j := (15 + i)) (nI_addE (nI_k 15) hpi) g0 (by omega) ?_
          (repeat first | rw [xw_s] | rw [xw_n (by omega)])
          skip
          refine xs_f 62 r_166_61 rfl ?_
          refine xs_if 65 71 r_166_62 rfl (fun he => ?_) (fun he => ?_)
          · refine xs_f 66 r_166_65 rfl ?_
            refine xs_f 67 r_166_66 rfl ?_
            refine xs_call (lv2 := [(0, _), (1, _)]) r_166_67 rfl rfl (by decide) (xcan_0 rfl rfl (by first | assumption | exact o0) (by rfl)) rfl ?_
            refine xs_f 1 r_153_0 rfl ?_
            refine xs_f 2 r_153_1 rfl ?_
            refine xs_putC 5 r_153_2 rfl o0 (by rfl) (by rfl) (fun f3 o3 y3 => ?_)
            have g4 := g0.fr (y3 _ (by omega))
            have Y5 := (Fm.rf : Fm h.1 h.1 a).w y3 (by omega)
            refine xs_f 6 r_153_5 rfl ?_
            refine xs_ret r_153_6 rfl ?_
            refine xK_v rfl ?_
            refine xs_ret r_166_70 rfl ?_
            first
              | exact mF kF (if_neg hp) (by decide) o3 g4 Y5
              | exact mF kF ((if_pos hp).trans (if_neg (by omega))) (by decide) o3 g4 Y5
              | exact mF kF ((if_pos hp).trans ((if_pos hq).trans (if_neg hk))) (by decide) o3 g4 Y5
              | exact mF kF ((if_pos hp).trans ((if_pos hq).trans ((if_pos hk).trans (by rw [hcl]; show (bif decide (G (15 + i) = 1) then 4 else (if rnk (gE G (pla (gQ G mn) no n)) (mn (pla (gQ G mn) no n)) p < mn (pla (gQ G mn) no n) ∨ G (10 + i) < s then 5 else 0)) = 4; rw [decide_eq_true he]; rfl)))) (by decide) o3 g4 Y5
              | exact mF kF ((if_pos hp).trans ((if_pos hq).trans ((if_pos hk).trans (by rw [hcl]; show (bif decide (G (15 + i) = 1) then 4 else (if rnk (gE G (pla (gQ G mn) no n)) (mn (pla (gQ G mn) no n)) p < mn (pla (gQ G mn) no n) ∨ G (10 + i) < s then 5 else 0)) = 5; rw [decide_eq_false he]; exact if_pos (Or.inl hr))))) (by decide) o3 g4 Y5
              | exact mF kF ((if_pos hp).trans ((if_pos hq).trans ((if_pos hk).trans (by rw [hcl]; show (bif decide (G (15 + i) = 1) then 4 else (if rnk (gE G (pla (gQ G mn) no n)) (mn (pla (gQ G mn) no n)) p < mn (pla (gQ G mn) no n) ∨ G (10 + i) < s then 5 else 0)) = 5; rw [decide_eq_false he]; exact if_pos (Or.inr (Int32.not_le.mp hm)))))) (by decide) o3 g4 Y5
              | exact kS ((if_pos hp).trans ((if_pos hq).trans ((if_pos hk).trans (by rw [hcl]; show (bif decide (G (15 + i) = 1) then 4 else (if rnk (gE G (pla (gQ G mn) no n)) (mn (pla (gQ G mn) no n)) p < mn (pla (gQ G mn) no n) ∨ G (10 + i) < s then 5 else 0)) = 0; rw [decide_eq_false he]; exact if_neg (fun z => z.elim (fun z => by omega) (fun z => absurd hm (Int32.not_le.mpr z))))))) i hi hpi hq hm4 _ o3 (by unfold gBet; rw [nI_succ, ← hpi]; exact g4) Y5
          · refine xs_f 72 r_166_71 rfl ?_
            refine xs_f 74 r_166_72 rfl ?_
            refine xs_f 75 r_166_74 rfl ?_
            refine xs_call (lv2 := [(0, _), (1, _), (2, _)]) r_166_75 rfl rfl (by decide) (xcan_0 rfl rfl (by first | assumption | exact o0) (by rfl)) rfl (m_160 o0 g0 hG h32 (i := (pla (gQ G mn) no n)) (by omega) (fun hr => ?_) (fun hr => ?_))
            · refine xK_v rfl ?_
              refine xs_f 79 r_166_78 rfl ?_
              refine xs_if 82 96 r_166_79 rfl (fun hc3 => ?_) (fun hc3 => ?_)
              · exact absurd hc3 (nI_m1 rfl (by omega))
              · refine xs_f 97 r_166_96 rfl ?_
                refine xs_f 98 r_166_97 rfl ?_
                refine xs_call (lv2 := [(0, _), (1, _)]) r_166_98 rfl rfl (by decide) (xcan_0 rfl rfl (by first | assumption | exact o0) (by rfl)) rfl ?_
                refine xs_f 1 r_153_0 rfl ?_
                refine xs_f 2 r_153_1 rfl ?_
                refine xs_putC 5 r_153_2 rfl o0 (by rfl) (by rfl) (fun f7 o7 y7 => ?_)
                have g8 := g0.fr (y7 _ (by omega))
                have Y9 := (Fm.rf : Fm h.1 h.1 a).w y7 (by omega)
                refine xs_f 6 r_153_5 rfl ?_
                refine xs_ret r_153_6 rfl ?_
                refine xK_v rfl ?_
                refine xs_ret r_166_101 rfl ?_
                first
                  | exact mF kF (if_neg hp) (by decide) o7 g8 Y9
                  | exact mF kF ((if_pos hp).trans (if_neg (by omega))) (by decide) o7 g8 Y9
                  | exact mF kF ((if_pos hp).trans ((if_pos hq).trans (if_neg hk))) (by decide) o7 g8 Y9
                  | exact mF kF ((if_pos hp).trans ((if_pos hq).trans ((if_pos hk).trans (by rw [hcl]; show (bif decide (G (15 + i) = 1) then 4 else (if rnk (gE G (pla (gQ G mn) no n)) (mn (pla (gQ G mn) no n)) p < mn (pla (gQ G mn) no n) ∨ G (10 + i) < s then 5 else 0)) = 4; rw [decide_eq_true he]; rfl)))) (by decide) o7 g8 Y9
                  | exact mF kF ((if_pos hp).trans ((if_pos hq).trans ((if_pos hk).trans (by rw [hcl]; show (bif decide (G (15 + i) = 1) then 4 else (if rnk (gE G (pla (gQ G mn) no n)) (mn (pla (gQ G mn) no n)) p < mn (pla (gQ G mn) no n) ∨ G (10 + i) < s then 5 else 0)) = 5; rw [decide_eq_false he]; exact if_pos (Or.inl hr))))) (by decide) o7 g8 Y9
                  | exact mF kF ((if_pos hp).trans ((if_pos hq).trans ((if_pos hk).trans (by rw [hcl]; show (bif decide (G (15 + i) = 1) then 4 else (if rnk (gE G (pla (gQ G mn) no n)) (mn (pla (gQ G mn) no n)) p < mn (pla (gQ G mn) no n) ∨ G (10 + i) < s then 5 else 0)) = 5; rw [decide_eq_false he]; exact if_pos (Or.inr (Int32.not_le.mp hm)))))) (by decide) o7 g8 Y9
                  | exact kS ((if_pos hp).trans ((if_pos hq).trans ((if_pos hk).trans (by rw [hcl]; show (bif decide (G (15 + i) = 1) then 4 else (if rnk (gE G (pla (gQ G mn) no n)) (mn (pla (gQ G mn) no n)) p < mn (pla (gQ G mn) no n) ∨ G (10 + i) < s then 5 else 0)) = 0; rw [decide_eq_false he]; exact if_neg (fun z => z.elim (fun z => by omega) (fun z => absurd hm (Int32.not_le.mpr z))))))) i hi hpi hq hm4 _ o7 (by unfold gBet; rw [nI_succ, ← hpi]; exact g8) Y9
            · refine xK_v rfl ?_
              refine xs_f 79 r_166_78 rfl ?_
              refine xs_f 82 r_166_79 rfl ?_
              refine xs_f 83 r_166_82 rfl ?_
              refine xs_get 86 r_166_83 rfl rfl (by first | assumption | exact o0) (by rfl) ?_
              refine xs_f 88 r_166_86 rfl ?_
              refine xs_f 89 r_166_88 rfl ?_
              refine xs_f 90 r_166_89 rfl ?_
              refine xs_aldI 91 r_166_90 (fun _ _ => rfl) rfl rfl rfl (j := (10 + i)) (nI_addE (nI_k 10) hpi) g0 (by omega) ?_
              (repeat first | rw [xw_s] | rw [xw_n (by omega)])
              skip
              refine xs_f 93 r_166_91 rfl ?_
              refine xs_if 102 96 r_166_93 rfl (fun hm => ?_) (fun hm => ?_)
              · have hm4 := hrm i _ hi hq (by rw [← hpi]; exact hr)
                refine xs_f 104 r_166_102 rfl ?_
                refine xs_f 105 r_166_104 rfl ?_
                refine xs_get 108 r_166_105 rfl rfl (by first | assumption | exact o0) (by rfl) ?_
                refine xs_f 111 r_166_108 rfl ?_
                refine xs_f 113 r_166_111 rfl ?_
                refine xs_f 114 r_166_113 rfl ?_
                refine xs_aldI 115 r_166_114 (fun _ _ => rfl) rfl rfl rfl (j := (132 + (pla (gQ G mn) no n))) (nI_addE (nI_k 132) rfl) g0 (by omega) ?_
                (repeat first | rw [xw_s] | rw [xw_n (by omega)])
                rw [(hG.2.2 (pla (gQ G mn) no n) (by omega)).1]
                refine xs_call (lv2 := [(0, _), (1, _)]) r_166_115 rfl rfl (by decide) (xcan_1 rfl) rfl ?_
                refine xs_f 3 r_159_0 rfl ?_
                refine xs_f 5 r_159_3 rfl ?_
                refine xs_f 6 r_159_5 rfl ?_
                refine xs_f 7 r_159_6 rfl ?_
                refine xs_f 8 r_159_7 rfl ?_
                refine xs_f 9 r_159_8 rfl ?_
                refine xs_f 10 r_159_9 rfl ?_
                refine xs_f 11 r_159_10 rfl ?_
                refine xs_f 12 r_159_11 rfl ?_
                refine xs_ret r_159_12 rfl ?_
                refine xK_v rfl ?_
                refine xs_f 120 (lv2 := [(8, _), (7, _), (0, _), (1, _), (2, _), (3, _), (4, _), (5, _), (6, _)]) r_166_118 rfl ?_
                refine xs_f 121 r_166_120 rfl ?_
                refine xs_get 124 r_166_121 rfl rfl (by first | assumption | exact o0) (by rfl) ?_
                refine xs_f 126 r_166_124 rfl ?_
                refine xs_f 127 r_166_126 rfl ?_
                refine xs_f 128 r_166_127 rfl ?_
                refine xs_f 129 r_166_128 rfl ?_
                refine xs_astI 130 r_166_129 (fun _ _ => rfl) rfl rfl rfl (j := (((138 + (25 * (pla (gQ G mn) no n))) + (5 * (mn (pla (gQ G mn) no n)))) + 0)) (nI_addE (nI_addE (nI_addE (nI_k 138) (nI_mulE (nI_k 25) rfl)) (nI_mulE (nI_k 5) rfl)) (nI_k 0)) g0 (by omega) (fun f10 g10 y10 => ?_)
                have o11 := (y10 _ (by omega)).trans o0
                have Y12 := (Fm.rf : Fm h.1 h.1 a).w y10 (by omega)
                refine xs_f 131 r_166_130 rfl ?_
                refine xs_get 134 r_166_131 rfl rfl (by first | assumption | exact o11) (by rfl) ?_
                refine xs_f 136 r_166_134 rfl ?_
                refine xs_f 137 r_166_136 rfl ?_
                refine xs_f 138 r_166_137 rfl ?_
                refine xs_f 139 r_166_138 rfl ?_
                refine xs_astI 140 r_166_139 (fun _ _ => rfl) rfl rfl rfl (j := (((138 + (25 * (pla (gQ G mn) no n))) + (5 * (mn (pla (gQ G mn) no n)))) + 1)) (nI_addE (nI_addE (nI_addE (nI_k 138) (nI_mulE (nI_k 25) rfl)) (nI_mulE (nI_k 5) rfl)) (nI_k 1)) g10 (by omega) (fun f13 g13 y13 => ?_)
                have o14 := (y13 _ (by omega)).trans o11
                have Y15 := Y12.w y13 (by omega)
                refine xs_f 141 r_166_140 rfl ?_
                refine xs_get 144 r_166_141 rfl rfl (by first | assumption | exact o14) (by rfl) ?_
                refine xs_f 146 r_166_144 rfl ?_
                refine xs_f 147 r_166_146 rfl ?_
                refine xs_f 148 r_166_147 rfl ?_
                refine xs_f 150 r_166_148 rfl ?_
                refine xs_astI 151 r_166_150 (fun _ _ => rfl) rfl rfl rfl (j := (((138 + (25 * (pla (gQ G mn) no n))) + (5 * (mn (pla (gQ G mn) no n)))) + 2)) (nI_addE (nI_addE (nI_addE (nI_k 138) (nI_mulE (nI_k 25) rfl)) (nI_mulE (nI_k 5) rfl)) (nI_k 2)) g13 (by omega) (fun f16 g16 y16 => ?_)
                have o17 := (y16 _ (by omega)).trans o14
                have Y18 := Y15.w y16 (by omega)
                refine xs_f 152 r_166_151 rfl ?_
                refine xs_get 155 r_166_152 rfl rfl (by first | assumption | exact o17) (by rfl) ?_
                refine xs_f 157 r_166_155 rfl ?_
                refine xs_f 158 r_166_157 rfl ?_
                refine xs_f 159 r_166_158 rfl ?_
                refine xs_f 161 r_166_159 rfl ?_
                refine xs_astI 162 r_166_161 (fun _ _ => rfl) rfl rfl rfl (j := (((138 + (25 * (pla (gQ G mn) no n))) + (5 * (mn (pla (gQ G mn) no n)))) + 3)) (nI_addE (nI_addE (nI_addE (nI_k 138) (nI_mulE (nI_k 25) rfl)) (nI_mulE (nI_k 5) rfl)) (nI_k 3)) g16 (by omega) (fun f19 g19 y19 => ?_)
                have o20 := (y19 _ (by omega)).trans o17
                have Y21 := Y18.w y19 (by omega)
                refine xs_f 163 r_166_162 rfl ?_
                refine xs_get 166 r_166_163 rfl rfl (by first | assumption | exact o20) (by rfl) ?_
                refine xs_f 168 r_166_166 rfl ?_
                refine xs_f 169 r_166_168 rfl ?_
                refine xs_f 170 r_166_169 rfl ?_
                refine xs_f 172 r_166_170 rfl ?_
                refine xs_astI 173 r_166_172 (fun _ _ => rfl) rfl rfl rfl (j := (((138 + (25 * (pla (gQ G mn) no n))) + (5 * (mn (pla (gQ G mn) no n)))) + 4)) (nI_addE (nI_addE (nI_addE (nI_k 138) (nI_mulE (nI_k 25) rfl)) (nI_mulE (nI_k 5) rfl)) (nI_k 4)) g19 (by omega) (fun f22 g22 y22 => ?_)
                have o23 := (y22 _ (by omega)).trans o20
                have Y24 := Y21.w y22 (by omega)
                refine xs_f 174 r_166_173 rfl ?_
                refine xs_get 177 r_166_174 rfl rfl (by first | assumption | exact o23) (by rfl) ?_
                refine xs_f 180 r_166_177 rfl ?_
                refine xs_f 182 r_166_180 rfl ?_
                refine xs_f 183 r_166_182 rfl ?_
                refine xs_f 184 r_166_183 rfl ?_
                refine xs_aldI 185 r_166_184 (fun _ _ => rfl) rfl rfl rfl (j := (132 + (pla (gQ G mn) no n))) (nI_addE (nI_k 132) rfl) g22 (by omega) ?_
                (repeat first | rw [xw_s] | rw [xw_n (by omega)])
                rw [(hG.2.2 (pla (gQ G mn) no n) (by omega)).1]
                refine xs_f 186 r_166_185 rfl ?_
                refine xs_f 187 r_166_186 rfl ?_
                refine xs_astI 188 r_166_187 (fun _ _ => rfl) rfl rfl rfl (j := (132 + (pla (gQ G mn) no n))) (nI_addE (nI_k 132) rfl) g22 (by omega) (fun f25 g25 y25 => ?_)
                have o26 := (y25 _ (by omega)).trans o23
                have Y27 := Y24.w y25 (by omega)
                refine xs_f 189 r_166_188 rfl ?_
                refine xs_get 192 r_166_189 rfl rfl (by first | assumption | exact o26) (by rfl) ?_
                refine xs_f 194 r_166_192 rfl ?_
                refine xs_f 195 r_166_194 rfl ?_
                refine xs_f 196 r_166_195 rfl ?_
                refine xs_f 197 r_166_196 rfl ?_
                refine xs_aldI 198 r_166_197 (fun _ _ => rfl) rfl rfl rfl (j := (10 + i)) (nI_addE (nI_k 10) hpi) g25 (by omega) ?_
                (repeat first | rw [xw_s] | rw [xw_n (by omega)])
                skip
                refine xs_f 200 r_166_198 rfl ?_
                refine xs_f 201 r_166_200 rfl ?_
                refine xs_astI 202 r_166_201 (fun _ _ => rfl) rfl rfl rfl (j := (10 + i)) (nI_addE (nI_k 10) hpi) g25 (by omega) (fun f28 g28 y28 => ?_)
                have o29 := (y28 _ (by omega)).trans o26
                have Y30 := Y27.w y28 (by omega)
                refine xs_f 203 r_166_202 rfl ?_
                refine xs_f 204 r_166_203 rfl ?_
                refine xs_get 207 r_166_204 rfl rfl (by first | assumption | exact o29) (by rfl) ?_
                refine xs_f 209 r_166_207 rfl ?_
                refine xs_f 210 r_166_209 rfl ?_
                refine xs_f 211 r_166_210 rfl ?_
                refine xs_aldI 212 r_166_211 (fun _ _ => rfl) rfl rfl rfl (j := (10 + i)) (nI_addE (nI_k 10) hpi) g28 (by omega) ?_
                (repeat first | rw [xw_s] | rw [xw_n (by omega)])
                skip
                refine xs_call (lv2 := [(0, _), (1, _)]) r_166_212 rfl rfl (by decide) (xcan_0 rfl rfl (by first | assumption | exact o29) (by rfl)) rfl ?_
                refine xs_f 1 r_152_0 rfl ?_
                refine xs_f 2 r_152_1 rfl ?_
                refine xs_putC 5 r_152_2 rfl o29 (by rfl) (by rfl) (fun f31 o31 y31 => ?_)
                have g32 := g28.fr (y31 _ (by omega))
                have Y33 := Y30.w y31 (by omega)
                refine xs_f 6 r_152_5 rfl ?_
                refine xs_ret r_152_6 rfl ?_
                refine xK_v rfl ?_
                refine xs_ret r_166_215 rfl ?_
                first
                  | exact mF kF (if_neg hp) (by decide) o31 g32 Y33
                  | exact mF kF ((if_pos hp).trans (if_neg (by omega))) (by decide) o31 g32 Y33
                  | exact mF kF ((if_pos hp).trans ((if_pos hq).trans (if_neg hk))) (by decide) o31 g32 Y33
                  | exact mF kF ((if_pos hp).trans ((if_pos hq).trans ((if_pos hk).trans (by rw [hcl]; show (bif decide (G (15 + i) = 1) then 4 else (if rnk (gE G (pla (gQ G mn) no n)) (mn (pla (gQ G mn) no n)) p < mn (pla (gQ G mn) no n) ∨ G (10 + i) < s then 5 else 0)) = 4; rw [decide_eq_true he]; rfl)))) (by decide) o31 g32 Y33
                  | exact mF kF ((if_pos hp).trans ((if_pos hq).trans ((if_pos hk).trans (by rw [hcl]; show (bif decide (G (15 + i) = 1) then 4 else (if rnk (gE G (pla (gQ G mn) no n)) (mn (pla (gQ G mn) no n)) p < mn (pla (gQ G mn) no n) ∨ G (10 + i) < s then 5 else 0)) = 5; rw [decide_eq_false he]; exact if_pos (Or.inl hr))))) (by decide) o31 g32 Y33
                  | exact mF kF ((if_pos hp).trans ((if_pos hq).trans ((if_pos hk).trans (by rw [hcl]; show (bif decide (G (15 + i) = 1) then 4 else (if rnk (gE G (pla (gQ G mn) no n)) (mn (pla (gQ G mn) no n)) p < mn (pla (gQ G mn) no n) ∨ G (10 + i) < s then 5 else 0)) = 5; rw [decide_eq_false he]; exact if_pos (Or.inr (Int32.not_le.mp hm)))))) (by decide) o31 g32 Y33
                  | exact kS ((if_pos hp).trans ((if_pos hq).trans ((if_pos hk).trans (by rw [hcl]; show (bif decide (G (15 + i) = 1) then 4 else (if rnk (gE G (pla (gQ G mn) no n)) (mn (pla (gQ G mn) no n)) p < mn (pla (gQ G mn) no n) ∨ G (10 + i) < s then 5 else 0)) = 0; rw [decide_eq_false he]; exact if_neg (fun z => z.elim (fun z => by omega) (fun z => absurd hm (Int32.not_le.mpr z))))))) i hi hpi hq hm4 _ o31 (by unfold gBet; rw [nI_succ, ← hpi]; exact g32) Y33
              · refine xs_f 97 r_166_96 rfl ?_
                refine xs_f 98 r_166_97 rfl ?_
                refine xs_call (lv2 := [(0, _), (1, _)]) r_166_98 rfl rfl (by decide) (xcan_0 rfl rfl (by first | assumption | exact o0) (by rfl)) rfl ?_
                refine xs_f 1 r_153_0 rfl ?_
                refine xs_f 2 r_153_1 rfl ?_
                refine xs_putC 5 r_153_2 rfl o0 (by rfl) (by rfl) (fun f34 o34 y34 => ?_)
                have g35 := g0.fr (y34 _ (by omega))
                have Y36 := (Fm.rf : Fm h.1 h.1 a).w y34 (by omega)
                refine xs_f 6 r_153_5 rfl ?_
                refine xs_ret r_153_6 rfl ?_
                refine xK_v rfl ?_
                refine xs_ret r_166_101 rfl ?_
                first
                  | exact mF kF (if_neg hp) (by decide) o34 g35 Y36
                  | exact mF kF ((if_pos hp).trans (if_neg (by omega))) (by decide) o34 g35 Y36
                  | exact mF kF ((if_pos hp).trans ((if_pos hq).trans (if_neg hk))) (by decide) o34 g35 Y36
                  | exact mF kF ((if_pos hp).trans ((if_pos hq).trans ((if_pos hk).trans (by rw [hcl]; show (bif decide (G (15 + i) = 1) then 4 else (if rnk (gE G (pla (gQ G mn) no n)) (mn (pla (gQ G mn) no n)) p < mn (pla (gQ G mn) no n) ∨ G (10 + i) < s then 5 else 0)) = 4; rw [decide_eq_true he]; rfl)))) (by decide) o34 g35 Y36
                  | exact mF kF ((if_pos hp).trans ((if_pos hq).trans ((if_pos hk).trans (by rw [hcl]; show (bif decide (G (15 + i) = 1) then 4 else (if rnk (gE G (pla (gQ G mn) no n)) (mn (pla (gQ G mn) no n)) p < mn (pla (gQ G mn) no n) ∨ G (10 + i) < s then 5 else 0)) = 5; rw [decide_eq_false he]; exact if_pos (Or.inl hr))))) (by decide) o34 g35 Y36
                  | exact mF kF ((if_pos hp).trans ((if_pos hq).trans ((if_pos hk).trans (by rw [hcl]; show (bif decide (G (15 + i) = 1) then 4 else (if rnk (gE G (pla (gQ G mn) no n)) (mn (pla (gQ G mn) no n)) p < mn (pla (gQ G mn) no n) ∨ G (10 + i) < s then 5 else 0)) = 5; rw [decide_eq_false he]; exact if_pos (Or.inr (Int32.not_le.mp hm)))))) (by decide) o34 g35 Y36
                  | exact kS ((if_pos hp).trans ((if_pos hq).trans ((if_pos hk).trans (by rw [hcl]; show (bif decide (G (15 + i) = 1) then 4 else (if rnk (gE G (pla (gQ G mn) no n)) (mn (pla (gQ G mn) no n)) p < mn (pla (gQ G mn) no n) ∨ G (10 + i) < s then 5 else 0)) = 0; rw [decide_eq_false he]; exact if_neg (fun z => z.elim (fun z => by omega) (fun z => absurd hm (Int32.not_le.mpr z))))))) i hi hpi hq hm4 _ o34 (by unfold gBet; rw [nI_succ, ← hpi]; exact g35) Y36
        · refine xK_v rfl ?_
          refine xs_f 46 r_166_43 rfl ?_
          refine xs_f 47 r_166_46 rfl ?_
          refine xs_f 48 r_166_47 rfl ?_
          refine xs_call (lv2 := [(0, _), (1, _)]) r_166_48 rfl rfl (by decide) (xcan_0 rfl rfl (by first | assumption | exact o0) (by rfl)) rfl ?_
          refine xs_f 1 r_153_0 rfl ?_
          refine xs_f 2 r_153_1 rfl ?_
          refine xs_putC 5 r_153_2 rfl o0 (by rfl) (by rfl) (fun f37 o37 y37 => ?_)
          have g38 := g0.fr (y37 _ (by omega))
          have Y39 := (Fm.rf : Fm h.1 h.1 a).w y37 (by omega)
          refine xs_f 6 r_153_5 rfl ?_
          refine xs_ret r_153_6 rfl ?_
          refine xK_v rfl ?_
          refine xs_ret r_166_51 rfl ?_
          first
            | exact mF kF (if_neg hp) (by decide) o37 g38 Y39
            | exact mF kF ((if_pos hp).trans (if_neg (by omega))) (by decide) o37 g38 Y39
            | exact mF kF ((if_pos hp).trans ((if_pos hq).trans (if_neg hk))) (by decide) o37 g38 Y39
            | exact mF kF ((if_pos hp).trans ((if_pos hq).trans ((if_pos hk).trans (by rw [hcl]; show (bif decide (G (15 + i) = 1) then 4 else (if rnk (gE G (pla (gQ G mn) no n)) (mn (pla (gQ G mn) no n)) p < mn (pla (gQ G mn) no n) ∨ G (10 + i) < s then 5 else 0)) = 4; rw [decide_eq_true he]; rfl)))) (by decide) o37 g38 Y39
            | exact mF kF ((if_pos hp).trans ((if_pos hq).trans ((if_pos hk).trans (by rw [hcl]; show (bif decide (G (15 + i) = 1) then 4 else (if rnk (gE G (pla (gQ G mn) no n)) (mn (pla (gQ G mn) no n)) p < mn (pla (gQ G mn) no n) ∨ G (10 + i) < s then 5 else 0)) = 5; rw [decide_eq_false he]; exact if_pos (Or.inl hr))))) (by decide) o37 g38 Y39
            | exact mF kF ((if_pos hp).trans ((if_pos hq).trans ((if_pos hk).trans (by rw [hcl]; show (bif decide (G (15 + i) = 1) then 4 else (if rnk (gE G (pla (gQ G mn) no n)) (mn (pla (gQ G mn) no n)) p < mn (pla (gQ G mn) no n) ∨ G (10 + i) < s then 5 else 0)) = 5; rw [decide_eq_false he]; exact if_pos (Or.inr (Int32.not_le.mp hm)))))) (by decide) o37 g38 Y39
            | exact kS ((if_pos hp).trans ((if_pos hq).trans ((if_pos hk).trans (by rw [hcl]; show (bif decide (G (15 + i) = 1) then 4 else (if rnk (gE G (pla (gQ G mn) no n)) (mn (pla (gQ G mn) no n)) p < mn (pla (gQ G mn) no n) ∨ G (10 + i) < s then 5 else 0)) = 0; rw [decide_eq_false he]; exact if_neg (fun z => z.elim (fun z => by omega) (fun z => absurd hm (Int32.not_le.mpr z))))))) i hi hpi hq hm4 _ o37 (by unfold gBet; rw [nI_succ, ← hpi]; exact g38) Y39
    · refine xK_v rfl ?_
      refine xs_f 21 (lv2 := [(7, _), (0, _), (1, _), (2, _), (3, _), (4, _), (5, _), (6, _)]) r_166_19 rfl ?_
      refine xs_f 23 r_166_21 rfl ?_
      refine xs_f 24 r_166_23 rfl ?_
      refine xs_f 27 r_166_24 rfl ?_
      refine xs_f 28 r_166_27 rfl ?_
      refine xs_f 29 r_166_28 rfl ?_
      refine xs_call (lv2 := [(0, _), (1, _)]) r_166_29 rfl rfl (by decide) (xcan_0 rfl rfl (by first | assumption | exact o0) (by rfl)) rfl ?_
      refine xs_f 1 r_153_0 rfl ?_
      refine xs_f 2 r_153_1 rfl ?_
      refine xs_putC 5 r_153_2 rfl o0 (by rfl) (by rfl) (fun f40 o40 y40 => ?_)
      have g41 := g0.fr (y40 _ (by omega))
      have Y42 := (Fm.rf : Fm h.1 h.1 a).w y40 (by omega)
      refine xs_f 6 r_153_5 rfl ?_
      refine xs_ret r_153_6 rfl ?_
      refine xK_v rfl ?_
      refine xs_ret r_166_32 rfl ?_
      first
        | exact mF kF (if_neg hp) (by decide) o40 g41 Y42
        | exact mF kF ((if_pos hp).trans (if_neg (by omega))) (by decide) o40 g41 Y42
        | exact mF kF ((if_pos hp).trans ((if_pos hq).trans (if_neg hk))) (by decide) o40 g41 Y42
        | exact mF kF ((if_pos hp).trans ((if_pos hq).trans ((if_pos hk).trans (by rw [hcl]; show (bif decide (G (15 + i) = 1) then 4 else (if rnk (gE G (pla (gQ G mn) no n)) (mn (pla (gQ G mn) no n)) p < mn (pla (gQ G mn) no n) ∨ G (10 + i) < s then 5 else 0)) = 4; rw [decide_eq_true he]; rfl)))) (by decide) o40 g41 Y42
        | exact mF kF ((if_pos hp).trans ((if_pos hq).trans ((if_pos hk).trans (by rw [hcl]; show (bif decide (G (15 + i) = 1) then 4 else (if rnk (gE G (pla (gQ G mn) no n)) (mn (pla (gQ G mn) no n)) p < mn (pla (gQ G mn) no n) ∨ G (10 + i) < s then 5 else 0)) = 5; rw [decide_eq_false he]; exact if_pos (Or.inl hr))))) (by decide) o40 g41 Y42
        | exact mF kF ((if_pos hp).trans ((if_pos hq).trans ((if_pos hk).trans (by rw [hcl]; show (bif decide (G (15 + i) = 1) then 4 else (if rnk (gE G (pla (gQ G mn) no n)) (mn (pla (gQ G mn) no n)) p < mn (pla (gQ G mn) no n) ∨ G (10 + i) < s then 5 else 0)) = 5; rw [decide_eq_false he]; exact if_pos (Or.inr (Int32.not_le.mp hm)))))) (by decide) o40 g41 Y42
        | exact kS ((if_pos hp).trans ((if_pos hq).trans ((if_pos hk).trans (by rw [hcl]; show (bif decide (G (15 + i) = 1) then 4 else (if rnk (gE G (pla (gQ G mn) no n)) (mn (pla (gQ G mn) no n)) p < mn (pla (gQ G mn) no n) ∨ G (10 + i) < s then 5 else 0)) = 0; rw [decide_eq_false he]; exact if_neg (fun z => z.elim (fun z => by omega) (fun z => absurd hm (Int32.not_le.mpr z))))))) i hi hpi hq hm4 _ o40 (by unfold gBet; rw [nI_succ, ← hpi]; exact g41) Y42
  · refine xK_v rfl ?_
    refine xs_f 8 r_166_5 rfl ?_
    refine xs_f 9 r_166_8 rfl ?_
    refine xs_f 10 r_166_9 rfl ?_
    refine xs_call (lv2 := [(0, _), (1, _)]) r_166_10 rfl rfl (by decide) (xcan_0 rfl rfl (by first | assumption | exact o0) (by rfl)) rfl ?_
    refine xs_f 1 r_153_0 rfl ?_
    refine xs_f 2 r_153_1 rfl ?_
    refine xs_putC 5 r_153_2 rfl o0 (by rfl) (by rfl) (fun f43 o43 y43 => ?_)
    have g44 := g0.fr (y43 _ (by omega))
    have Y45 := (Fm.rf : Fm h.1 h.1 a).w y43 (by omega)
    refine xs_f 6 r_153_5 rfl ?_
    refine xs_ret r_153_6 rfl ?_
    refine xK_v rfl ?_
    refine xs_ret r_166_13 rfl ?_
    first
      | exact mF kF (if_neg hp) (by decide) o43 g44 Y45
      | exact mF kF ((if_pos hp).trans (if_neg (by omega))) (by decide) o43 g44 Y45
      | exact mF kF ((if_pos hp).trans ((if_pos hq).trans (if_neg hk))) (by decide) o43 g44 Y45
      | exact mF kF ((if_pos hp).trans ((if_pos hq).trans ((if_pos hk).trans (by rw [hcl]; show (bif decide (G (15 + i) = 1) then 4 else (if rnk (gE G (pla (gQ G mn) no n)) (mn (pla (gQ G mn) no n)) p < mn (pla (gQ G mn) no n) ∨ G (10 + i) < s then 5 else 0)) = 4; rw [decide_eq_true he]; rfl)))) (by decide) o43 g44 Y45
      | exact mF kF ((if_pos hp).trans ((if_pos hq).trans ((if_pos hk).trans (by rw [hcl]; show (bif decide (G (15 + i) = 1) then 4 else (if rnk (gE G (pla (gQ G mn) no n)) (mn (pla (gQ G mn) no n)) p < mn (pla (gQ G mn) no n) ∨ G (10 + i) < s then 5 else 0)) = 5; rw [decide_eq_false he]; exact if_pos (Or.inl hr))))) (by decide) o43 g44 Y45
      | exact mF kF ((if_pos hp).trans ((if_pos hq).trans ((if_pos hk).trans (by rw [hcl]; show (bif decide (G (15 + i) = 1) then 4 else (if rnk (gE G (pla (gQ G mn) no n)) (mn (pla (gQ G mn) no n)) p < mn (pla (gQ G mn) no n) ∨ G (10 + i) < s then 5 else 0)) = 5; rw [decide_eq_false he]; exact if_pos (Or.inr (Int32.not_le.mp hm)))))) (by decide) o43 g44 Y45
      | exact kS ((if_pos hp).trans ((if_pos hq).trans ((if_pos hk).trans (by rw [hcl]; show (bif decide (G (15 + i) = 1) then 4 else (if rnk (gE G (pla (gQ G mn) no n)) (mn (pla (gQ G mn) no n)) p < mn (pla (gQ G mn) no n) ∨ G (10 + i) < s then 5 else 0)) = 0; rw [decide_eq_false he]; exact if_neg (fun z => z.elim (fun z => by omega) (fun z => absurd hm (Int32.not_le.mpr z))))))) i hi hpi hq hm4 _ o43 (by unfold gBet; rw [nI_succ, ← hpi]; exact g44) Y45

def xdistM (e : XEst) (t : Int32) : Int32 := if t < e.2.1 then e.2.1 - t else if e.2.2.1 < t then t - e.2.2.1 else 0
def xptsM (e : XEst) (t : Int32) : Int32 := e.2.2.1 - e.2.1 + 20 * xdistM e t / (10 - e.2.2.2.1)
def s1A (G : Nat → Int32) (i j : Nat) (e : XEst) (wt t : Int32) : Nat → Int32 := xw (xw G (20 + i) (G (20 + i) + wt * xptsM e t)) (30 + (9 * i + j - 1)) (G (30 + (9 * i + j - 1)) + 1)
def s1G (G : Nat → Int32) (i j : Nat) (e : XEst) (wt t : Int32) : Nat → Int32 := if xdistM e t ≤ 0 then xw (xw (xw (s1A G i j e wt t) (75 + (9 * i + j - 1)) (G (75 + (9 * i + j - 1)) + 1)) (10 + i) (G (10 + i) + (e.2.2.2.2 + xprize e))) 3 (G 3 - xprize e) else xw (s1A G i j e wt t) 3 (G 3 + e.2.2.2.2)
theorem ml_169 {S : XSc} {d : Nat} {h : XH} {Q : XO → XH → Prop} {a : Nat} {G : Nat → Int32} {ch sv ty ea fa ol th sp wr : Int32} (o0 : h.1 a = some (.inr (9, mO a ch sv ty ea fa ol th sp wr))) (g0 : IA h.1 0 (a + 1) 288 G) (h32 : 32 ≤ a) {u i j : Nat} (hu : 138 ≤ u) (hu2 : u + 4 < 288) (hi5 : i < 5) (h1 : 1 ≤ j) (h9 : j ≤ 9) (hpl : G (u + 0) = nI i) (hcf : G (u + 3) = nI j) {wt t : Int32} {dd : Int32} (hd : dd = xdistM (nI i, (G (u + 1), (G (u + 2), (nI j, G (u + 4))))) t) (k1 : xdistM (nI i, (G (u + 1), (G (u + 2), (nI j, G (u + 4))))) t ≤ 0 → ∀ f, IA f 0 (a + 1) 288 (s1G G i j (nI i, (G (u + 1), (G (u + 2), (nI j, G (u + 4))))) wt t) → Fr h.1 f (a + 1) (a + 2) → Q (.inl (some (.int 1))) (f, h.2)) (k0 : ¬ xdistM (nI i, (G (u + 1), (G (u + 2), (nI j, G (u + 4))))) t ≤ 0 → ∀ f, IA f 0 (a + 1) 288 (s1G G i j (nI i, (G (u + 1), (G (u + 2), (nI j, G (u + 4))))) wt t) → Fr h.1 f (a + 1) (a + 2) → Q (.inl (some (.int 0))) (f, h.2)) : xP S (d + 1) 169 61 [(4, .int (nI i)), (0, .ref a), (1, .int (nI u)), (2, .int wt), (3, .int t)] [.int dd] h Q := by
  rw [← hd] at k1 k0
  refine xs_f 63 (lv2 := [(5, _), (4, _), (0, _), (1, _), (2, _), (3, _)]) r_169_61 rfl ?_
  refine xs_f 65 r_169_63 rfl ?_
  refine xs_f 67 r_169_65 rfl ?_
  refine xs_f 68 r_169_67 rfl ?_
  refine xs_f 69 r_169_68 rfl ?_
  refine xs_get 72 r_169_69 rfl rfl (by first | assumption | exact o0) (by rfl) ?_
  refine xs_f 73 r_169_72 rfl ?_
  refine xs_f 74 r_169_73 rfl ?_
  refine xs_f 75 r_169_74 rfl ?_
  refine xs_aldI 76 r_169_75 (fun _ _ => rfl) rfl rfl rfl (j := (u + 3)) (nI_addE rfl (nI_k 3)) g0 (by omega) ?_
  (repeat first | rw [xw_s] | rw [xw_n (by omega)])
  rw [hcf]
  refine xs_f 77 r_169_76 rfl ?_
  refine xs_f 78 r_169_77 rfl ?_
  refine xs_f 79 r_169_78 rfl ?_
  refine xs_f 81 (lv2 := [(6, _), (5, _), (4, _), (0, _), (1, _), (2, _), (3, _)]) r_169_79 rfl ?_
  refine xs_f 82 r_169_81 rfl ?_
  refine xs_get 85 r_169_82 rfl rfl (by first | assumption | exact o0) (by rfl) ?_
  refine xs_f 87 r_169_85 rfl ?_
  refine xs_f 89 r_169_87 rfl ?_
  refine xs_f 90 r_169_89 rfl ?_
  refine xs_f 91 r_169_90 rfl ?_
  refine xs_aldI 92 r_169_91 (fun _ _ => rfl) rfl rfl rfl (j := (20 + i)) (nI_addE (nI_k 20) rfl) g0 (by omega) ?_
  (repeat first | rw [xw_s] | rw [xw_n (by omega)])
  skip
  refine xs_f 93 r_169_92 rfl ?_
  refine xs_f 94 r_169_93 rfl ?_
  refine xs_get 97 r_169_94 rfl rfl (by first | assumption | exact o0) (by rfl) ?_
  refine xs_f 98 r_169_97 rfl ?_
  refine xs_f 99 r_169_98 rfl ?_
  refine xs_f 100 r_169_99 rfl ?_
  refine xs_aldI 101 r_169_100 (fun _ _ => rfl) rfl rfl rfl (j := (u + 2)) (nI_addE rfl (nI_k 2)) g0 (by omega) ?_
  (repeat first | rw [xw_s] | rw [xw_n (by omega)])
  skip
  refine xs_f 102 r_169_101 rfl ?_
  refine xs_get 105 r_169_102 rfl rfl (by first | assumption | exact o0) (by rfl) ?_
  refine xs_f 106 r_169_105 rfl ?_
  refine xs_f 107 r_169_106 rfl ?_
  refine xs_f 108 r_169_107 rfl ?_
  refine xs_aldI 109 r_169_108 (fun _ _ => rfl) rfl rfl rfl (j := (u + 1)) (nI_addE rfl (nI_k 1)) g0 (by omega) ?_
  (repeat first | rw [xw_s] | rw [xw_n (by omega)])
  skip
  refine xs_f 110 r_169_109 rfl ?_
  refine xs_f 112 r_169_110 rfl ?_
  refine xs_f 114 r_169_112 rfl ?_
  refine xs_f 115 r_169_114 rfl ?_
  refine xs_f 117 r_169_115 rfl ?_
  refine xs_f 118 r_169_117 rfl ?_
  refine xs_get 121 r_169_118 rfl rfl (by first | assumption | exact o0) (by rfl) ?_
  refine xs_f 122 r_169_121 rfl ?_
  refine xs_f 123 r_169_122 rfl ?_
  refine xs_f 124 r_169_123 rfl ?_
  refine xs_aldI 125 r_169_124 (fun _ _ => rfl) rfl rfl rfl (j := (u + 3)) (nI_addE rfl (nI_k 3)) g0 (by omega) ?_
  (repeat first | rw [xw_s] | rw [xw_n (by omega)])
  rw [hcf]
  refine xs_f 126 r_169_125 rfl ?_
  refine xs_idiv 127 r_169_126 rfl (xconf_ne (xconf_j h1 h9)).2 ?_
  refine xs_f 128 r_169_127 rfl ?_
  refine xs_f 129 r_169_128 rfl ?_
  refine xs_f 130 r_169_129 rfl ?_
  refine xs_astI 131 r_169_130 (fun _ _ => rfl) rfl rfl rfl (j := (20 + i)) (nI_addE (nI_k 20) rfl) g0 (by omega) (fun f1 g1 y1 => ?_)
  have o2 := (y1 _ (by omega)).trans o0
  have Y3 := (Fr.rf : Fr h.1 h.1 (a + 1) (a + 2)).tr (y1.wd (by omega) (by omega))
  refine xs_f 132 r_169_131 rfl ?_
  refine xs_get 135 r_169_132 rfl rfl (by first | assumption | exact o2) (by rfl) ?_
  refine xs_f 137 r_169_135 rfl ?_
  refine xs_f 139 r_169_137 rfl ?_
  refine xs_f 140 r_169_139 rfl ?_
  refine xs_f 141 r_169_140 rfl ?_
  refine xs_aldI 142 r_169_141 (fun _ _ => rfl) rfl rfl rfl (j := (30 + (((9 * i) + j) - 1))) (nI_addE (nI_k 30) (nI_subE (nI_addE (nI_mulE (nI_k 9) rfl) rfl) (nI_k 1) (by omega))) g1 (by omega) ?_
  (repeat first | rw [xw_s] | rw [xw_n (by omega)])
  skip
  refine xs_f 143 r_169_142 rfl ?_
  refine xs_f 144 r_169_143 rfl ?_
  refine xs_astI 145 r_169_144 (fun _ _ => rfl) rfl rfl rfl (j := (30 + (((9 * i) + j) - 1))) (nI_addE (nI_k 30) (nI_subE (nI_addE (nI_mulE (nI_k 9) rfl) rfl) (nI_k 1) (by omega))) g1 (by omega) (fun f4 g4 y4 => ?_)
  have o5 := (y4 _ (by omega)).trans o2
  have Y6 := Y3.tr (y4.wd (by omega) (by omega))
  refine xs_f 147 r_169_145 rfl ?_
  refine xs_if 169 150 r_169_147 rfl (fun hh => ?_) (fun hh => ?_)
  · refine xs_f 170 r_169_169 rfl ?_
    refine xs_get 173 r_169_170 rfl rfl (by first | assumption | exact o5) (by rfl) ?_
    refine xs_f 175 r_169_173 rfl ?_
    refine xs_f 177 r_169_175 rfl ?_
    refine xs_f 178 r_169_177 rfl ?_
    refine xs_f 179 r_169_178 rfl ?_
    refine xs_aldI 180 r_169_179 (fun _ _ => rfl) rfl rfl rfl (j := (75 + (((9 * i) + j) - 1))) (nI_addE (nI_k 75) (nI_subE (nI_addE (nI_mulE (nI_k 9) rfl) rfl) (nI_k 1) (by omega))) g4 (by omega) ?_
    (repeat first | rw [xw_s] | rw [xw_n (by omega)])
    skip
    refine xs_f 181 r_169_180 rfl ?_
    refine xs_f 182 r_169_181 rfl ?_
    refine xs_astI 183 r_169_182 (fun _ _ => rfl) rfl rfl rfl (j := (75 + (((9 * i) + j) - 1))) (nI_addE (nI_k 75) (nI_subE (nI_addE (nI_mulE (nI_k 9) rfl) rfl) (nI_k 1) (by omega))) g4 (by omega) (fun f7 g7 y7 => ?_)
    have o8 := (y7 _ (by omega)).trans o5
    have Y9 := Y6.tr (y7.wd (by omega) (by omega))
    refine xs_f 184 r_169_183 rfl ?_
    refine xs_get 187 r_169_184 rfl rfl (by first | assumption | exact o8) (by rfl) ?_
    refine xs_f 189 r_169_187 rfl ?_
    refine xs_f 191 r_169_189 rfl ?_
    refine xs_f 192 r_169_191 rfl ?_
    refine xs_f 193 r_169_192 rfl ?_
    refine xs_aldI 194 r_169_193 (fun _ _ => rfl) rfl rfl rfl (j := (10 + i)) (nI_addE (nI_k 10) rfl) g7 (by omega) ?_
    (repeat first | rw [xw_s] | rw [xw_n (by omega)])
    skip
    refine xs_f 195 r_169_194 rfl ?_
    refine xs_get 198 r_169_195 rfl rfl (by first | assumption | exact o8) (by rfl) ?_
    refine xs_f 199 r_169_198 rfl ?_
    refine xs_f 200 r_169_199 rfl ?_
    refine xs_f 201 r_169_200 rfl ?_
    refine xs_aldI 202 r_169_201 (fun _ _ => rfl) rfl rfl rfl (j := (u + 4)) (nI_addE rfl (nI_k 4)) g7 (by omega) ?_
    (repeat first | rw [xw_s] | rw [xw_n (by omega)])
    skip
    refine xs_f 203 r_169_202 rfl ?_
    refine xs_f 204 r_169_203 rfl ?_
    refine xs_call (lv2 := [(0, _), (1, _)]) r_169_204 rfl rfl (by decide) (xcan_0 rfl rfl (by first | assumption | exact o8) (by rfl)) rfl ?_
    refine xs_f 1 r_168_0 rfl ?_
    refine xs_get 4 r_168_1 rfl rfl (by first | assumption | exact o8) (by rfl) ?_
    refine xs_f 5 r_168_4 rfl ?_
    refine xs_f 6 r_168_5 rfl ?_
    refine xs_f 7 r_168_6 rfl ?_
    refine xs_aldI 8 r_168_7 (fun _ _ => rfl) rfl rfl rfl (j := (u + 4)) (nI_addE rfl (nI_k 4)) g7 (by omega) ?_
    (repeat first | rw [xw_s] | rw [xw_n (by omega)])
    skip
    refine xs_f 10 r_168_8 rfl ?_
    refine xs_f 11 r_168_10 rfl ?_
    refine xs_get 14 r_168_11 rfl rfl (by first | assumption | exact o8) (by rfl) ?_
    refine xs_f 15 r_168_14 rfl ?_
    refine xs_f 16 r_168_15 rfl ?_
    refine xs_f 17 r_168_16 rfl ?_
    refine xs_aldI 18 r_168_17 (fun _ _ => rfl) rfl rfl rfl (j := (u + 3)) (nI_addE rfl (nI_k 3)) g7 (by omega) ?_
    (repeat first | rw [xw_s] | rw [xw_n (by omega)])
    rw [hcf]
    refine xs_f 19 r_168_18 rfl ?_
    refine xs_f 20 r_168_19 rfl ?_
    refine xs_f 21 r_168_20 rfl ?_
    refine xs_get 24 r_168_21 rfl rfl (by first | assumption | exact o8) (by rfl) ?_
    refine xs_f 25 r_168_24 rfl ?_
    refine xs_f 26 r_168_25 rfl ?_
    refine xs_f 27 r_168_26 rfl ?_
    refine xs_aldI 28 r_168_27 (fun _ _ => rfl) rfl rfl rfl (j := (u + 3)) (nI_addE rfl (nI_k 3)) g7 (by omega) ?_
    (repeat first | rw [xw_s] | rw [xw_n (by omega)])
    rw [hcf]
    refine xs_idiv 29 r_168_28 rfl (xconf_ne (xconf_j h1 h9)).1 ?_
    refine xs_ret r_168_29 rfl ?_
    refine xK_v rfl ?_
    refine xs_f 208 r_169_207 rfl ?_
    refine xs_f 209 r_169_208 rfl ?_
    refine xs_astI 210 r_169_209 (fun _ _ => rfl) rfl rfl rfl (j := (10 + i)) (nI_addE (nI_k 10) rfl) g7 (by omega) (fun f10 g10 y10 => ?_)
    have o11 := (y10 _ (by omega)).trans o8
    have Y12 := Y9.tr (y10.wd (by omega) (by omega))
    refine xs_f 211 r_169_210 rfl ?_
    refine xs_get 214 r_169_211 rfl rfl (by first | assumption | exact o11) (by rfl) ?_
    refine xs_f 215 r_169_214 rfl ?_
    refine xs_f 216 r_169_215 rfl ?_
    refine xs_aldI 217 r_169_216 (fun _ _ => rfl) rfl rfl rfl (j := 3) (nI_k 3) g10 (by omega) ?_
    (repeat first | rw [xw_s] | rw [xw_n (by omega)])
    skip
    refine xs_f 218 r_169_217 rfl ?_
    refine xs_f 219 r_169_218 rfl ?_
    refine xs_call (lv2 := [(0, _), (1, _)]) r_169_219 rfl rfl (by decide) (xcan_0 rfl rfl (by first | assumption | exact o11) (by rfl)) rfl ?_
    refine xs_f 1 r_168_0 rfl ?_
    refine xs_get 4 r_168_1 rfl rfl (by first | assumption | exact o11) (by rfl) ?_
    refine xs_f 5 r_168_4 rfl ?_
    refine xs_f 6 r_168_5 rfl ?_
    refine xs_f 7 r_168_6 rfl ?_
    refine xs_aldI 8 r_168_7 (fun _ _ => rfl) rfl rfl rfl (j := (u + 4)) (nI_addE rfl (nI_k 4)) g10 (by omega) ?_
    (repeat first | rw [xw_s] | rw [xw_n (by omega)])
    skip
    refine xs_f 10 r_168_8 rfl ?_
    refine xs_f 11 r_168_10 rfl ?_
    refine xs_get 14 r_168_11 rfl rfl (by first | assumption | exact o11) (by rfl) ?_
    refine xs_f 15 r_168_14 rfl ?_
    refine xs_f 16 r_168_15 rfl ?_
    refine xs_f 17 r_168_16 rfl ?_
    refine xs_aldI 18 r_168_17 (fun _ _ => rfl) rfl rfl rfl (j := (u + 3)) (nI_addE rfl (nI_k 3)) g10 (by omega) ?_
    (repeat first | rw [xw_s] | rw [xw_n (by omega)])
    rw [hcf]
    refine xs_f 19 r_168_18 rfl ?_
    refine xs_f 20 r_168_19 rfl ?_
    refine xs_f 21 r_168_20 rfl ?_
    refine xs_get 24 r_168_21 rfl rfl (by first | assumption | exact o11) (by rfl) ?_
    refine xs_f 25 r_168_24 rfl ?_
    refine xs_f 26 r_168_25 rfl ?_
    refine xs_f 27 r_168_26 rfl ?_
    refine xs_aldI 28 r_168_27 (fun _ _ => rfl) rfl rfl rfl (j := (u + 3)) (nI_addE rfl (nI_k 3)) g10 (by omega) ?_
    (repeat first | rw [xw_s] | rw [xw_n (by omega)])
    rw [hcf]
    refine xs_idiv 29 r_168_28 rfl (xconf_ne (xconf_j h1 h9)).1 ?_
    refine xs_ret r_168_29 rfl ?_
    refine xK_v rfl ?_
    refine xs_f 223 r_169_222 rfl ?_
    refine xs_astI 224 r_169_223 (fun _ _ => rfl) rfl rfl rfl (j := 3) (nI_k 3) g10 (by omega) (fun f13 g13 y13 => ?_)
    have o14 := (y13 _ (by omega)).trans o11
    have Y15 := Y12.tr (y13.wd (by omega) (by omega))
    refine xs_f 225 r_169_224 rfl ?_
    refine xs_ret r_169_225 rfl ?_
    first
      | exact k1 hh _ (by
      unfold s1G s1A xptsM
      rw [← hd, if_pos hh]
      exact g13) Y15
      | exact k0 hh _ (by
      unfold s1G s1A xptsM
      rw [← hd, if_neg hh]
      exact g13) Y15
  · refine xs_f 151 r_169_150 rfl ?_
    refine xs_get 154 r_169_151 rfl rfl (by first | assumption | exact o5) (by rfl) ?_
    refine xs_f 155 r_169_154 rfl ?_
    refine xs_f 156 r_169_155 rfl ?_
    refine xs_aldI 157 r_169_156 (fun _ _ => rfl) rfl rfl rfl (j := 3) (nI_k 3) g4 (by omega) ?_
    (repeat first | rw [xw_s] | rw [xw_n (by omega)])
    skip
    refine xs_f 158 r_169_157 rfl ?_
    refine xs_get 161 r_169_158 rfl rfl (by first | assumption | exact o5) (by rfl) ?_
    refine xs_f 162 r_169_161 rfl ?_
    refine xs_f 163 r_169_162 rfl ?_
    refine xs_f 164 r_169_163 rfl ?_
    refine xs_aldI 165 r_169_164 (fun _ _ => rfl) rfl rfl rfl (j := (u + 4)) (nI_addE rfl (nI_k 4)) g4 (by omega) ?_
    (repeat first | rw [xw_s] | rw [xw_n (by omega)])
    skip
    refine xs_f 166 r_169_165 rfl ?_
    refine xs_astI 167 r_169_166 (fun _ _ => rfl) rfl rfl rfl (j := 3) (nI_k 3) g4 (by omega) (fun f16 g16 y16 => ?_)
    have o17 := (y16 _ (by omega)).trans o5
    have Y18 := Y6.tr (y16.wd (by omega) (by omega))
    refine xs_f 168 r_169_167 rfl ?_
    refine xs_ret r_169_168 rfl ?_
    first
      | exact k1 hh _ (by
      unfold s1G s1A xptsM
      rw [← hd, if_pos hh]
      exact g16) Y18
      | exact k0 hh _ (by
      unfold s1G s1A xptsM
      rw [← hd, if_neg hh]
      exact g16) Y18

theorem m_169 {S : XSc} {d : Nat} {h : XH} {Q : XO → XH → Prop} {a : Nat} {G : Nat → Int32} {ch sv ty ea fa ol th sp wr : Int32} (o0 : h.1 a = some (.inr (9, mO a ch sv ty ea fa ol th sp wr))) (g0 : IA h.1 0 (a + 1) 288 G) (h32 : 32 ≤ a) {u i j : Nat} (hu : 138 ≤ u) (hu2 : u + 4 < 288) (hi5 : i < 5) (h1 : 1 ≤ j) (h9 : j ≤ 9) (hpl : G (u + 0) = nI i) (hcf : G (u + 3) = nI j) {wt t : Int32} (k1 : xdistM (nI i, (G (u + 1), (G (u + 2), (nI j, G (u + 4))))) t ≤ 0 → ∀ f, IA f 0 (a + 1) 288 (s1G G i j (nI i, (G (u + 1), (G (u + 2), (nI j, G (u + 4))))) wt t) → Fr h.1 f (a + 1) (a + 2) → Q (.inl (some (.int 1))) (f, h.2)) (k0 : ¬ xdistM (nI i, (G (u + 1), (G (u + 2), (nI j, G (u + 4))))) t ≤ 0 → ∀ f, IA f 0 (a + 1) 288 (s1G G i j (nI i, (G (u + 1), (G (u + 2), (nI j, G (u + 4))))) wt t) → Fr h.1 f (a + 1) (a + 2) → Q (.inl (some (.int 0))) (f, h.2)) : xP S (d + 1) 169 0 [(0, .ref a), (1, .int (nI u)), (2, .int wt), (3, .int t)] [] h Q := by
  refine xs_f 1 r_169_0 rfl ?_
  refine xs_get 4 r_169_1 rfl rfl (by first | assumption | exact o0) (by rfl) ?_
  refine xs_f 5 r_169_4 rfl ?_
  refine xs_f 6 r_169_5 rfl ?_
  refine xs_f 7 r_169_6 rfl ?_
  refine xs_aldI 8 r_169_7 (fun _ _ => rfl) rfl rfl rfl (j := (u + 0)) (nI_addE rfl (nI_k 0)) g0 (by omega) ?_
  (repeat first | rw [xw_s] | rw [xw_n (by omega)])
  rw [hpl]
  refine xs_f 10 (lv2 := [(4, _), (0, _), (1, _), (2, _), (3, _)]) r_169_8 rfl ?_
  refine xs_f 11 r_169_10 rfl ?_
  refine xs_f 12 r_169_11 rfl ?_
  refine xs_get 15 r_169_12 rfl rfl (by first | assumption | exact o0) (by rfl) ?_
  refine xs_f 16 r_169_15 rfl ?_
  refine xs_f 17 r_169_16 rfl ?_
  refine xs_f 18 r_169_17 rfl ?_
  refine xs_aldI 19 r_169_18 (fun _ _ => rfl) rfl rfl rfl (j := (u + 1)) (nI_addE rfl (nI_k 1)) g0 (by omega) ?_
  (repeat first | rw [xw_s] | rw [xw_n (by omega)])
  skip
  refine xs_if 35 22 r_169_19 rfl (fun hc1 => ?_) (fun hc1 => ?_)
  · refine xs_f 36 r_169_35 rfl ?_
    refine xs_f 37 r_169_36 rfl ?_
    refine xs_get 40 r_169_37 rfl rfl (by first | assumption | exact o0) (by rfl) ?_
    refine xs_f 41 r_169_40 rfl ?_
    refine xs_f 42 r_169_41 rfl ?_
    refine xs_f 43 r_169_42 rfl ?_
    refine xs_aldI 44 r_169_43 (fun _ _ => rfl) rfl rfl rfl (j := (u + 2)) (nI_addE rfl (nI_k 2)) g0 (by omega) ?_
    (repeat first | rw [xw_s] | rw [xw_n (by omega)])
    skip
    refine xs_if 60 47 r_169_44 rfl (fun hc2 => ?_) (fun hc2 => ?_)
    · refine xs_f 61 r_169_60 rfl ?_
      first
        | exact ml_169 o0 g0 h32 hu hu2 hi5 h1 h9 hpl hcf (show _ = xdistM (nI i, (G (u + 1), (G (u + 2), (nI j, G (u + 4))))) t from (if_pos hc1).symm) k1 k0
        | exact ml_169 o0 g0 h32 hu hu2 hi5 h1 h9 hpl hcf (show _ = xdistM (nI i, (G (u + 1), (G (u + 2), (nI j, G (u + 4))))) t from ((if_neg hc1).trans (if_pos (Int32.not_le.mp hc2))).symm) k1 k0
        | exact ml_169 o0 g0 h32 hu hu2 hi5 h1 h9 hpl hcf (show _ = xdistM (nI i, (G (u + 1), (G (u + 2), (nI j, G (u + 4))))) t from ((if_neg (fun z => hc1 z)).trans (if_neg (Int32.not_lt.mpr hc2))).symm) k1 k0
        | exact ml_169 o0 g0 h32 hu hu2 hi5 h1 h9 hpl hcf (show _ = xdistM (nI i, (G (u + 1), (G (u + 2), (nI j, G (u + 4))))) t from ((if_neg (Int32.not_lt.mpr hc1)).trans (if_pos (Int32.not_le.mp hc2))).symm) k1 k0
        | exact ml_169 o0 g0 h32 hu hu2 hi5 h1 h9 hpl hcf (show _ = xdistM (nI i, (G (u + 1), (G (u + 2), (nI j, G (u + 4))))) t from ((if_neg (Int32.not_lt.mpr hc1)).trans (if_neg (Int32.not_lt.mpr hc2))).symm) k1 k0
        | exact ml_169 o0 g0 h32 hu hu2 hi5 h1 h9 hpl hcf (show _ = xdistM (nI i, (G (u + 1), (G (u + 2), (nI j, G (u + 4))))) t from (if_pos (Int32.not_le.mp hc1)).symm) k1 k0
    · refine xs_f 48 r_169_47 rfl ?_
      refine xs_f 49 r_169_48 rfl ?_
      refine xs_get 52 r_169_49 rfl rfl (by first | assumption | exact o0) (by rfl) ?_
      refine xs_f 53 r_169_52 rfl ?_
      refine xs_f 54 r_169_53 rfl ?_
      refine xs_f 55 r_169_54 rfl ?_
      refine xs_aldI 56 r_169_55 (fun _ _ => rfl) rfl rfl rfl (j := (u + 2)) (nI_addE rfl (nI_k 2)) g0 (by omega) ?_
      (repeat first | rw [xw_s] | rw [xw_n (by omega)])
      skip
      refine xs_f 57 r_169_56 rfl ?_
      refine xs_f 61 r_169_57 rfl ?_
      first
        | exact ml_169 o0 g0 h32 hu hu2 hi5 h1 h9 hpl hcf (show _ = xdistM (nI i, (G (u + 1), (G (u + 2), (nI j, G (u + 4))))) t from (if_pos hc1).symm) k1 k0
        | exact ml_169 o0 g0 h32 hu hu2 hi5 h1 h9 hpl hcf (show _ = xdistM (nI i, (G (u + 1), (G (u + 2), (nI j, G (u + 4))))) t from ((if_neg hc1).trans (if_pos (Int32.not_le.mp hc2))).symm) k1 k0
        | exact ml_169 o0 g0 h32 hu hu2 hi5 h1 h9 hpl hcf (show _ = xdistM (nI i, (G (u + 1), (G (u + 2), (nI j, G (u + 4))))) t from ((if_neg (fun z => hc1 z)).trans (if_neg (Int32.not_lt.mpr hc2))).symm) k1 k0
        | exact ml_169 o0 g0 h32 hu hu2 hi5 h1 h9 hpl hcf (show _ = xdistM (nI i, (G (u + 1), (G (u + 2), (nI j, G (u + 4))))) t from ((if_neg (Int32.not_lt.mpr hc1)).trans (if_pos (Int32.not_le.mp hc2))).symm) k1 k0
        | exact ml_169 o0 g0 h32 hu hu2 hi5 h1 h9 hpl hcf (show _ = xdistM (nI i, (G (u + 1), (G (u + 2), (nI j, G (u + 4))))) t from ((if_neg (Int32.not_lt.mpr hc1)).trans (if_neg (Int32.not_lt.mpr hc2))).symm) k1 k0
        | exact ml_169 o0 g0 h32 hu hu2 hi5 h1 h9 hpl hcf (show _ = xdistM (nI i, (G (u + 1), (G (u + 2), (nI j, G (u + 4))))) t from (if_pos (Int32.not_le.mp hc1)).symm) k1 k0
  · refine xs_f 23 r_169_22 rfl ?_
    refine xs_get 26 r_169_23 rfl rfl (by first | assumption | exact o0) (by rfl) ?_
    refine xs_f 27 r_169_26 rfl ?_
    refine xs_f 28 r_169_27 rfl ?_
    refine xs_f 29 r_169_28 rfl ?_
    refine xs_aldI 30 r_169_29 (fun _ _ => rfl) rfl rfl rfl (j := (u + 1)) (nI_addE rfl (nI_k 1)) g0 (by omega) ?_
    (repeat first | rw [xw_s] | rw [xw_n (by omega)])
    skip
    refine xs_f 31 r_169_30 rfl ?_
    refine xs_f 32 r_169_31 rfl ?_
    refine xs_f 61 r_169_32 rfl ?_
    first
      | exact ml_169 o0 g0 h32 hu hu2 hi5 h1 h9 hpl hcf (show _ = xdistM (nI i, (G (u + 1), (G (u + 2), (nI j, G (u + 4))))) t from (if_pos hc1).symm) k1 k0
      | exact ml_169 o0 g0 h32 hu hu2 hi5 h1 h9 hpl hcf (show _ = xdistM (nI i, (G (u + 1), (G (u + 2), (nI j, G (u + 4))))) t from ((if_neg hc1).trans (if_pos (Int32.not_le.mp hc2))).symm) k1 k0
      | exact ml_169 o0 g0 h32 hu hu2 hi5 h1 h9 hpl hcf (show _ = xdistM (nI i, (G (u + 1), (G (u + 2), (nI j, G (u + 4))))) t from ((if_neg (fun z => hc1 z)).trans (if_neg (Int32.not_lt.mpr hc2))).symm) k1 k0
      | exact ml_169 o0 g0 h32 hu hu2 hi5 h1 h9 hpl hcf (show _ = xdistM (nI i, (G (u + 1), (G (u + 2), (nI j, G (u + 4))))) t from ((if_neg (Int32.not_lt.mpr hc1)).trans (if_pos (Int32.not_le.mp hc2))).symm) k1 k0
      | exact ml_169 o0 g0 h32 hu hu2 hi5 h1 h9 hpl hcf (show _ = xdistM (nI i, (G (u + 1), (G (u + 2), (nI j, G (u + 4))))) t from ((if_neg (Int32.not_lt.mpr hc1)).trans (if_neg (Int32.not_lt.mpr hc2))).symm) k1 k0
      | exact ml_169 o0 g0 h32 hu hu2 hi5 h1 h9 hpl hcf (show _ = xdistM (nI i, (G (u + 1), (G (u + 2), (nI j, G (u + 4))))) t from (if_pos (Int32.not_le.mp hc1)).symm) k1 k0

/-- the block fr over the block to, its first x rows of 25 -/
def cpQ (G : Nat → Int32) (fr to n : Nat) : Nat → Int32 := fun x => if x = 120 + to then G (120 + fr) else if x = 126 + to then G (126 + fr) else if x = 132 + to then G (132 + fr) else if 138 + 25 * to ≤ x ∧ x < 138 + 25 * to + n then G (138 + 25 * fr + (x - (138 + 25 * to))) else G x
/-- the first n blocks come from one place further on -/
def drF (G : Nat → Int32) (n : Nat) : Nat → Int32 := fun x => if 120 ≤ x ∧ x < 120 + n then G (x + 1) else if 126 ≤ x ∧ x < 126 + n then G (x + 1) else if 132 ≤ x ∧ x < 132 + n then G (x + 1) else if 138 ≤ x ∧ x < 138 + 25 * n then G (x + 25) else G x
theorem cpQ_0 {G : Nat → Int32} {fr to : Nat} (h1 : to < 6) (h2 : fr < 6) : xw (xw (xw G (120 + to) (G (120 + fr))) (126 + to) (G (126 + fr))) (132 + to) (G (132 + fr)) = cpQ G fr to 0 := funext fun x => by
  unfold xw cpQ
  (repeat' split) <;> first | rfl | (exfalso; omega) | (congr 1; omega)
theorem cpQ_s {G : Nat → Int32} {fr to n : Nat} (h1 : to < 6) (h2 : fr < 6) (hne : fr ≠ to) (hn : n < 25) : xw (cpQ G fr to n) (138 + 25 * to + 5 * 0 + n) (G (138 + 25 * fr + 5 * 0 + n)) = cpQ G fr to (n + 1) := funext fun x => by
  unfold xw cpQ
  (repeat' split) <;> first | rfl | (exfalso; omega) | (congr 1; omega)
theorem cpQ_out {G : Nat → Int32} {fr to n x : Nat} (h1 : to < 6) (h2 : fr < 6) (hne : fr ≠ to) (hn : n < 25) : cpQ G fr to n (138 + 25 * fr + 5 * 0 + x) = G (138 + 25 * fr + 5 * 0 + x) ∨ 25 ≤ x := by
  by_cases z : 25 ≤ x
  · exact Or.inr z
  · refine Or.inl ?_
    unfold cpQ
    (repeat' split) <;> first | rfl | (exfalso; omega)
theorem drF_0 {G : Nat → Int32} : drF G 0 = G := funext fun x => by
  unfold drF
  (repeat' split) <;> first | rfl | (exfalso; omega) | (congr 1; omega)
theorem drF_s {G : Nat → Int32} {n : Nat} (hn : n < 5) : cpQ (drF G n) (n + 1) n 25 = drF G (n + 1) := funext fun x => by
  unfold cpQ drF
  (repeat' split) <;> first | rfl | (exfalso; omega) | (congr 1; omega)
theorem ml_170 {S : XSc} {d : Nat} {h : XH} {Q : XO → XH → Prop} {a : Nat} {G : Nat → Int32} {ch sv ty ea fa ol th sp wr : Int32} (o0 : h.1 a = some (.inr (9, mO a ch sv ty ea fa ol th sp wr))) (g0 : IA h.1 0 (a + 1) 288 G) (h32 : 32 ≤ a) {fr to : Nat} (h1 : to < 6) (h2 : fr < 6) (hne : fr ≠ to) (k : ∀ f, IA f 0 (a + 1) 288 (cpQ G fr to 25) → Fr h.1 f (a + 1) (a + 2) → Q (.inl none) (f, h.2)) : ∀ (m : Nat) (n : Nat) (f : Nat → Option XE), 25 - n < m → (n ≤ 25) → (IA f 0 (a + 1) 288 (cpQ G fr to n)) → (Fr h.1 f (a + 1) (a + 2)) → xP S (d + 1) 170 58 [(0, .ref a), (1, .int (nI fr)), (2, .int (nI to)), (3, .int (nI n))] [] (f, h.2) Q := by
  intro m
  induction m with
  | zero => intro n f hm; exact absurd hm (Nat.not_lt_zero _)
  | succ m ih =>
    intro n f hm hn g9 hF
    have o9 := (hF a (by omega)).trans o0
    refine xs_f 59 r_170_58 rfl ?_
    refine xs_f 61 r_170_59 rfl ?_
    refine xs_if 94 64 r_170_61 rfl (fun hc1 => ?_) (fun hc1 => ?_)
    · have hc1 := (nI_leN (nI_k 25) rfl (by omega) (by omega)).mp hc1
      refine xs_ret r_170_94 rfl ?_
      have e : n = 25 := by omega
      subst e
      exact k f g9 hF
    · have hc1 := mt (nI_leN (nI_k 25) rfl (by omega) (by omega)).mpr hc1
      refine xs_f 65 r_170_64 rfl ?_
      refine xs_get 68 r_170_65 rfl rfl (by first | assumption | exact o9) (by rfl) ?_
      refine xs_f 69 r_170_68 rfl ?_
      refine xs_f 70 r_170_69 rfl ?_
      refine xs_call (lv2 := [(0, _), (1, _)]) r_170_70 rfl rfl (by decide) (xcan_1 rfl) rfl ?_
      refine xs_f 3 r_159_0 rfl ?_
      refine xs_f 5 r_159_3 rfl ?_
      refine xs_f 6 r_159_5 rfl ?_
      refine xs_f 7 r_159_6 rfl ?_
      refine xs_f 8 r_159_7 rfl ?_
      refine xs_f 9 r_159_8 rfl ?_
      refine xs_f 10 r_159_9 rfl ?_
      refine xs_f 11 r_159_10 rfl ?_
      refine xs_f 12 r_159_11 rfl ?_
      refine xs_ret r_159_12 rfl ?_
      refine xK_v rfl ?_
      refine xs_f 74 r_170_73 rfl ?_
      refine xs_f 75 r_170_74 rfl ?_
      refine xs_f 76 r_170_75 rfl ?_
      refine xs_get 79 r_170_76 rfl rfl (by first | assumption | exact o9) (by rfl) ?_
      refine xs_f 80 r_170_79 rfl ?_
      refine xs_f 81 r_170_80 rfl ?_
      refine xs_call (lv2 := [(0, _), (1, _)]) r_170_81 rfl rfl (by decide) (xcan_1 rfl) rfl ?_
      refine xs_f 3 r_159_0 rfl ?_
      refine xs_f 5 r_159_3 rfl ?_
      refine xs_f 6 r_159_5 rfl ?_
      refine xs_f 7 r_159_6 rfl ?_
      refine xs_f 8 r_159_7 rfl ?_
      refine xs_f 9 r_159_8 rfl ?_
      refine xs_f 10 r_159_9 rfl ?_
      refine xs_f 11 r_159_10 rfl ?_
      refine xs_f 12 r_159_11 rfl ?_
      refine xs_ret r_159_12 rfl ?_
      refine xK_v rfl ?_
      refine xs_f 85 r_170_84 rfl ?_
      refine xs_f 86 r_170_85 rfl ?_
      refine xs_aldI 87 r_170_86 (fun _ _ => rfl) rfl rfl rfl (j := (((138 + (25 * fr)) + (5 * 0)) + n)) (nI_addE (nI_addE (nI_addE (nI_k 138) (nI_mulE (nI_k 25) rfl)) (nI_mulE (nI_k 5) (nI_k 0))) rfl) g9 (by omega) ?_
      refine xs_astI 88 r_170_87 (fun _ _ => rfl) rfl rfl rfl (j := (((138 + (25 * to)) + (5 * 0)) + n)) (nI_addE (nI_addE (nI_addE (nI_k 138) (nI_mulE (nI_k 25) rfl)) (nI_mulE (nI_k 5) (nI_k 0))) rfl) g9 (by omega) (fun f1 g1 y1 => ?_)
      have o2 := (y1 _ (by omega)).trans o9
      have Y3 := hF.tr (y1.wd (by omega) (by omega))
      refine xs_f 91 (lv2 := [(3, _), (0, _), (1, _), (2, _)]) r_170_88 rfl ?_
      refine xs_f 58 r_170_91 rfl ?_
      exact xP_lv [(0, .ref a), (1, .int (nI fr)), (2, .int (nI to)), (3, .int (nI (n + 1)))] rfl ⟨rfl, rfl, rfl, (by rw [nI_succ]; rfl), trivial⟩ (ih (n + 1) _ (by omega) (by omega) (by rw [(cpQ_out h1 h2 hne (by omega)).resolve_right (by omega), cpQ_s h1 h2 hne (by omega)] at g1; exact g1) Y3)

theorem m_170 {S : XSc} {d : Nat} {h : XH} {Q : XO → XH → Prop} {a : Nat} {G : Nat → Int32} {ch sv ty ea fa ol th sp wr : Int32} (o0 : h.1 a = some (.inr (9, mO a ch sv ty ea fa ol th sp wr))) (g0 : IA h.1 0 (a + 1) 288 G) (h32 : 32 ≤ a) {fr to : Nat} (h1 : to < 6) (h2 : fr < 6) (hne : fr ≠ to) (k : ∀ f, IA f 0 (a + 1) 288 (cpQ G fr to 25) → Fr h.1 f (a + 1) (a + 2) → Q (.inl none) (f, h.2)) : xP S (d + 1) 170 0 [(0, .ref a), (1, .int (nI fr)), (2, .int (nI to))] [] h Q := by
  refine xs_f 1 r_170_0 rfl ?_
  refine xs_get 4 r_170_1 rfl rfl (by first | assumption | exact o0) (by rfl) ?_
  refine xs_f 6 r_170_4 rfl ?_
  refine xs_f 7 r_170_6 rfl ?_
  refine xs_f 8 r_170_7 rfl ?_
  refine xs_f 9 r_170_8 rfl ?_
  refine xs_get 12 r_170_9 rfl rfl (by first | assumption | exact o0) (by rfl) ?_
  refine xs_f 14 r_170_12 rfl ?_
  refine xs_f 15 r_170_14 rfl ?_
  refine xs_f 16 r_170_15 rfl ?_
  refine xs_aldI 17 r_170_16 (fun _ _ => rfl) rfl rfl rfl (j := (120 + fr)) (nI_addE (nI_k 120) rfl) g0 (by omega) ?_
  (repeat first | rw [xw_s] | rw [xw_n (by omega)])
  refine xs_astI 18 r_170_17 (fun _ _ => rfl) rfl rfl rfl (j := (120 + to)) (nI_addE (nI_k 120) rfl) g0 (by omega) (fun f1 g1 y1 => ?_)
  have o2 := (y1 _ (by omega)).trans o0
  have Y3 := (Fr.rf : Fr h.1 h.1 (a + 1) (a + 2)).tr (y1.wd (by omega) (by omega))
  refine xs_f 19 r_170_18 rfl ?_
  refine xs_get 22 r_170_19 rfl rfl (by first | assumption | exact o2) (by rfl) ?_
  refine xs_f 24 r_170_22 rfl ?_
  refine xs_f 25 r_170_24 rfl ?_
  refine xs_f 26 r_170_25 rfl ?_
  refine xs_f 27 r_170_26 rfl ?_
  refine xs_get 30 r_170_27 rfl rfl (by first | assumption | exact o2) (by rfl) ?_
  refine xs_f 32 r_170_30 rfl ?_
  refine xs_f 33 r_170_32 rfl ?_
  refine xs_f 34 r_170_33 rfl ?_
  refine xs_aldI 35 r_170_34 (fun _ _ => rfl) rfl rfl rfl (j := (126 + fr)) (nI_addE (nI_k 126) rfl) g1 (by omega) ?_
  (repeat first | rw [xw_s] | rw [xw_n (by omega)])
  refine xs_astI 36 r_170_35 (fun _ _ => rfl) rfl rfl rfl (j := (126 + to)) (nI_addE (nI_k 126) rfl) g1 (by omega) (fun f4 g4 y4 => ?_)
  have o5 := (y4 _ (by omega)).trans o2
  have Y6 := Y3.tr (y4.wd (by omega) (by omega))
  refine xs_f 37 r_170_36 rfl ?_
  refine xs_get 40 r_170_37 rfl rfl (by first | assumption | exact o5) (by rfl) ?_
  refine xs_f 43 r_170_40 rfl ?_
  refine xs_f 44 r_170_43 rfl ?_
  refine xs_f 45 r_170_44 rfl ?_
  refine xs_f 46 r_170_45 rfl ?_
  refine xs_get 49 r_170_46 rfl rfl (by first | assumption | exact o5) (by rfl) ?_
  refine xs_f 52 r_170_49 rfl ?_
  refine xs_f 53 r_170_52 rfl ?_
  refine xs_f 54 r_170_53 rfl ?_
  refine xs_aldI 55 r_170_54 (fun _ _ => rfl) rfl rfl rfl (j := (132 + fr)) (nI_addE (nI_k 132) rfl) g4 (by omega) ?_
  (repeat first | rw [xw_s] | rw [xw_n (by omega)])
  refine xs_astI 56 r_170_55 (fun _ _ => rfl) rfl rfl rfl (j := (132 + to)) (nI_addE (nI_k 132) rfl) g4 (by omega) (fun f7 g7 y7 => ?_)
  have o8 := (y7 _ (by omega)).trans o5
  have Y9 := Y6.tr (y7.wd (by omega) (by omega))
  refine xs_f 57 r_170_56 rfl ?_
  refine xs_f 58 (lv2 := [(3, _), (0, _), (1, _), (2, _)]) r_170_57 rfl ?_
  exact xP_lv [(0, .ref a), (1, .int (nI fr)), (2, .int (nI to)), (3, .int (nI 0))] rfl ⟨rfl, rfl, rfl, rfl, trivial⟩ (ml_170 o0 g0 h32 h1 h2 hne k 26 0 _ (by omega) (by omega) (by rw [cpQ_0 h1 h2] at g7; exact g7) Y9)

theorem ml_171 {S : XSc} {d : Nat} {h : XH} {Q : XO → XH → Prop} {a : Nat} {G : Nat → Int32} {ch sv ty ea fa ol th sp wr : Int32} (o0 : h.1 a = some (.inr (9, mO a ch sv ty ea fa ol th sp wr))) (g0 : IA h.1 0 (a + 1) 288 G) (h32 : 32 ≤ a) {no : Nat} (hno0 : G 1 = nI no) (h0 : 0 < no) (no6 : no ≤ 6) (k : ∀ f, IA f 0 (a + 1) 288 (xw (drF G (no - 1)) 1 (nI (no - 1))) → Fr h.1 f (a + 1) (a + 2) → Q (.inl none) (f, h.2)) : ∀ (m : Nat) (n : Nat) (f : Nat → Option XE), no - n < m → (1 ≤ n) → (n ≤ no) → (IA f 0 (a + 1) 288 (drF G (n - 1))) → (Fr h.1 f (a + 1) (a + 2)) → xP S (d + 2) 171 2 [(0, .ref a), (1, .int (nI n))] [] (f, h.2) Q := by
  intro m
  induction m with
  | zero => intro n f hm; exact absurd hm (Nat.not_lt_zero _)
  | succ m ih =>
    intro n f hm hn0 hn g9 hF
    have o9 := (hF a (by omega)).trans o0
    have hno : drF G (n - 1) 1 = nI no := by
      unfold drF
      rw [if_neg (by omega), if_neg (by omega), if_neg (by omega), if_neg (by omega)]
      exact hno0
    refine xs_f 3 r_171_2 rfl ?_
    refine xs_f 4 r_171_3 rfl ?_
    refine xs_get 7 r_171_4 rfl rfl (by first | assumption | exact o9) (by rfl) ?_
    refine xs_f 8 r_171_7 rfl ?_
    refine xs_aldI 9 r_171_8 (fun _ _ => rfl) rfl rfl rfl (j := 1) (nI_k 1) g9 (by omega) ?_
    rw [hno]
    refine xs_if 26 12 r_171_9 rfl (fun hc1 => ?_) (fun hc1 => ?_)
    · have hc1 := (nI_leN rfl rfl (by omega) (by omega)).mp hc1
      refine xs_f 27 r_171_26 rfl ?_
      refine xs_get 30 r_171_27 rfl rfl (by first | assumption | exact o9) (by rfl) ?_
      refine xs_f 31 r_171_30 rfl ?_
      refine xs_f 32 r_171_31 rfl ?_
      refine xs_aldI 33 r_171_32 (fun _ _ => rfl) rfl rfl rfl (j := 1) (nI_k 1) g9 (by omega) ?_
      rw [hno]
      refine xs_f 34 r_171_33 rfl ?_
      refine xs_f 35 r_171_34 rfl ?_
      refine xs_astI 36 r_171_35 (fun _ _ => rfl) rfl rfl rfl (j := 1) (nI_k 1) g9 (by omega) (fun f1 g1 y1 => ?_)
      have o2 := (y1 _ (by omega)).trans o9
      have Y3 := hF.tr (y1.wd (by omega) (by omega))
      refine xs_ret r_171_36 rfl ?_
      have e : n = no := by omega
      subst e
      exact k _ (by rw [← nI_subE (x := nI n) (y := 1) (a := n) (b := 1) rfl rfl (by omega)]; exact g1) Y3
    · have hc1 := mt (nI_leN rfl rfl (by omega) (by omega)).mpr hc1
      refine xs_f 13 r_171_12 rfl ?_
      refine xs_f 14 r_171_13 rfl ?_
      refine xs_f 15 r_171_14 rfl ?_
      refine xs_f 16 r_171_15 rfl ?_
      refine xs_f 17 r_171_16 rfl ?_
      refine xs_call (lv2 := [(0, _), (1, _), (2, _)]) r_171_17 rfl rfl (by decide) (xcan_0 rfl rfl (by first | assumption | exact o9) (by rfl)) rfl (xP_lv [(0, .ref a), (1, .int (nI n)), (2, .int (nI (n - 1)))] rfl ⟨rfl, rfl, (congrArg (fun z => some (Value.int z)) (nI_subE rfl (nI_k 1) (by omega))), trivial⟩ (m_170 (h := (f, h.2)) o9 g9 h32 (fr := n) (to := n - 1) (by omega) (by omega) (by omega) (fun f4 g4 y4 => ?_)))
      have o5 := (y4 _ (by omega)).trans o9
      have Y6 := hF.tr (y4.wd (by omega) (by omega))
      refine xK_0 rfl ?_
      refine xs_f 23 (lv2 := [(1, _), (0, _)]) r_171_20 rfl ?_
      refine xs_f 2 r_171_23 rfl ?_
      exact xP_lv [(0, .ref a), (1, .int (nI (n + 1)))] rfl ⟨rfl, (by rw [nI_succ]; rfl), trivial⟩ (ih (n + 1) _ (by omega) (by omega) (by omega) (by
        obtain ⟨m, rfl⟩ : ∃ m, n = m + 1 := ⟨n - 1, by omega⟩
        rw [show m + 1 - 1 = m from rfl, drF_s (by omega)] at g4
        exact g4) Y6)

theorem m_171 {S : XSc} {d : Nat} {h : XH} {Q : XO → XH → Prop} {a : Nat} {G : Nat → Int32} {ch sv ty ea fa ol th sp wr : Int32} (o0 : h.1 a = some (.inr (9, mO a ch sv ty ea fa ol th sp wr))) (g0 : IA h.1 0 (a + 1) 288 G) (h32 : 32 ≤ a) {no : Nat} (hno0 : G 1 = nI no) (h0 : 0 < no) (no6 : no ≤ 6) (k : ∀ f, IA f 0 (a + 1) 288 (xw (drF G (no - 1)) 1 (nI (no - 1))) → Fr h.1 f (a + 1) (a + 2) → Q (.inl none) (f, h.2)) : xP S (d + 2) 171 0 [(0, .ref a)] [] h Q := by
  refine xs_f 1 r_171_0 rfl ?_
  refine xs_f 2 (lv2 := [(1, _), (0, _)]) r_171_1 rfl ?_
  exact xP_lv [(0, .ref a), (1, .int (nI 1))] rfl ⟨rfl, rfl, trivial⟩ (ml_171 o0 g0 h32 hno0 h0 no6 k (no + 1) 1 h.1 (by omega) (by omega) (by omega) (by rw [show (1 : Nat) - 1 = 0 from rfl, drF_0]; exact g0) Fr.rf)

