/-! shares and means: the reference -/
theorem m_209 {S : XSc} {d : Nat} {h : XH} {Q : XO → XH → Prop} {a : Nat} {G : Nat → Int32} {np no : Nat} {mn : Nat → Nat} {ch sv ty ea fa ol th sp wr : Int32} (o0 : h.1 a = some (.inr (9, mO a ch sv ty ea fa ol th sp wr))) (g0 : IA h.1 0 (a + 1) 288 G) (hG : WG G np no mn) (h32 : 32 ≤ a) {p : Int32} (k1 : ¬ isPl np p → ∀ f, f a = some (.inr (9, mO a ch sv ty ea fa ol 1 sp wr)) → Fr h.1 f a (a + 1) → Q (.inl (some (.double FP.dconst0))) (f, h.2)) (k2 : isPl np p → szP (gP G p.toNatClampNeg) = 0 → ∀ f, f a = some (.inr (9, mO a ch sv ty ea fa ol 2 sp wr)) → Fr h.1 f a (a + 1) → Q (.inl (some (.double FP.dconst0))) (f, h.2)) (k0 : isPl np p → szP (gP G p.toNatClampNeg) ≠ 0 → ∀ f, f a = some (.inr (9, mO a ch sv ty ea fa ol 0 sp wr)) → Fr h.1 f a (a + 1) → Q (.inl (some (.double (FP.ddiv (FP.i2d (gP G p.toNatClampNeg).2.1) (FP.i2d (szP (gP G p.toNatClampNeg))))))) (f, h.2)) : xP S (d + 2) 209 0 [(0, .ref a), (1, .int p)] [] h Q := by
  refine xs_f 1 r_209_0 rfl ?_
  refine xs_f 2 r_209_1 rfl ?_
  refine xs_f 3 r_209_2 rfl ?_
  refine xs_call (lv2 := [(0, _), (1, _)]) r_209_3 rfl rfl (by decide) (xcan_0 rfl rfl (by first | assumption | exact o0) (by rfl)) rfl (m_157 o0 g0 hG h32 (fun hp => ?_) (fun hp => ?_))
  · obtain ⟨i, hi, hpi, hcl⟩ := isPl_c hp (by have := hG.1.2; omega)
    have np5 := hG.1.2
    rw [hcl] at k2 k0
    subst hpi
    have es : szP (gP G i) = xsum (fun j => G (30 + 9 * i + j)) 9 := gB_sum G (30 + 9 * i)
    refine xK_v rfl ?_
    refine xs_f 13 r_209_6 rfl ?_
    refine xs_f 14 r_209_13 rfl ?_
    refine xs_f 16 r_209_14 rfl ?_
    refine xs_f 17 r_209_16 rfl ?_
    refine xs_call (lv2 := [(0, _), (1, _), (2, _)]) r_209_17 rfl rfl (by decide) (xcan_0 rfl rfl (by first | assumption | exact o0) (by rfl)) rfl (m_205 o0 g0 hG h32 (z := 30) (i := i) (by omega) ?_)
    refine xK_v rfl ?_
    refine xs_if 23 27 r_209_20 rfl (fun hz => ?_) (fun hz => ?_)
    · refine xs_f 24 r_209_23 rfl ?_
      refine xs_f 28 r_209_24 rfl ?_
      refine xs_putC 31 r_209_28 rfl o0 (by rfl) (by rfl) (fun f3 o3 y3 => ?_)
      have g4 := g0.fr (y3 _ (by omega))
      have Y5 := (Fr.rf : Fr h.1 h.1 a (a + 1)).tr (y3.wd (by omega) (by omega))
      refine xs_f 32 r_209_31 rfl ?_
      refine xs_get 35 r_209_32 rfl rfl (by first | assumption | exact o3) (by rfl) ?_
      refine xs_f 60 r_209_35 rfl ?_
      refine xs_f 61 r_209_60 rfl ?_
      refine xs_ret r_209_61 rfl ?_
      first
        | exact k1 hp _ o3 Y5
        | exact k2 hp (es.trans hz) _ o3 Y5
        | (rw [es] at k0; exact k0 hp hz _ o3 Y5)
    · refine xs_f 28 r_209_27 rfl ?_
      refine xs_putC 31 r_209_28 rfl o0 (by rfl) (by rfl) (fun f6 o6 y6 => ?_)
      have g7 := g0.fr (y6 _ (by omega))
      have Y8 := (Fr.rf : Fr h.1 h.1 a (a + 1)).tr (y6.wd (by omega) (by omega))
      refine xs_f 32 r_209_31 rfl ?_
      refine xs_get 35 r_209_32 rfl rfl (by first | assumption | exact o6) (by rfl) ?_
      refine xs_f 38 r_209_35 rfl ?_
      refine xs_f 39 r_209_38 rfl ?_
      refine xs_get 42 r_209_39 rfl rfl (by first | assumption | exact o6) (by rfl) ?_
      refine xs_f 44 r_209_42 rfl ?_
      refine xs_f 45 r_209_44 rfl ?_
      refine xs_f 46 r_209_45 rfl ?_
      refine xs_aldI 47 r_209_46 (fun _ _ => rfl) rfl rfl rfl (j := (20 + i)) (nI_addE (nI_k 20) rfl) g7 (by omega) ?_
      refine xs_f 48 r_209_47 rfl ?_
      refine xs_f 49 r_209_48 rfl ?_
      refine xs_f 51 r_209_49 rfl ?_
      refine xs_f 52 r_209_51 rfl ?_
      refine xs_call (lv2 := [(0, _), (1, _), (2, _)]) r_209_52 rfl rfl (by decide) (xcan_0 rfl rfl (by first | assumption | exact o6) (by rfl)) rfl (m_205 o6 g7 hG h32 (z := 30) (i := i) (by omega) ?_)
      refine xK_v rfl ?_
      refine xs_f 56 r_209_55 rfl ?_
      refine xs_ddiv 57 r_209_56 rfl hz ?_
      refine xs_f 61 r_209_57 rfl ?_
      refine xs_ret r_209_61 rfl ?_
      first
        | exact k1 hp _ o6 Y8
        | exact k2 hp (es.trans hz) _ o6 Y8
        | (rw [es] at k0; exact k0 hp hz _ o6 Y8)
  · refine xK_v rfl ?_
    refine xs_f 9 r_209_6 rfl ?_
    refine xs_f 10 r_209_9 rfl ?_
    refine xs_f 28 r_209_10 rfl ?_
    refine xs_putC 31 r_209_28 rfl o0 (by rfl) (by rfl) (fun f10 o10 y10 => ?_)
    have g11 := g0.fr (y10 _ (by omega))
    have Y12 := (Fr.rf : Fr h.1 h.1 a (a + 1)).tr (y10.wd (by omega) (by omega))
    refine xs_f 32 r_209_31 rfl ?_
    refine xs_get 35 r_209_32 rfl rfl (by first | assumption | exact o10) (by rfl) ?_
    refine xs_f 60 r_209_35 rfl ?_
    refine xs_f 61 r_209_60 rfl ?_
    refine xs_ret r_209_61 rfl ?_
    first
      | exact k1 hp _ o10 Y12
      | exact k2 hp (es.trans hz) _ o10 Y12
      | (rw [es] at k0; exact k0 hp hz _ o10 Y12)

theorem m_219 {S : XSc} {d : Nat} {h : XH} {Q : XO → XH → Prop} {a : Nat} {G : Nat → Int32} {np no : Nat} {mn : Nat → Nat} {ch sv ty ea fa ol th sp wr : Int32} (o0 : h.1 a = some (.inr (9, mO a ch sv ty ea fa ol th sp wr))) (g0 : IA h.1 0 (a + 1) 288 G) (hG : WG G np no mn) (h32 : 32 ≤ a) {c : Int32} (k1 : ¬ xconf c → ∀ f, f a = some (.inr (9, mO a ch sv ty ea fa ol 1 sp wr)) → Fr h.1 f a (a + 1) → Q (.inl (some (.float FP.fconst0))) (f, h.2)) (k2 : xconf c → (xsum (fun i => G (30 + 9 * i + c.toNatClampNeg - 1)) np) = 0 → ∀ f, f a = some (.inr (9, mO a ch sv ty ea fa ol 2 sp wr)) → Fr h.1 f a (a + 1) → Q (.inl (some (.float FP.fconst0))) (f, h.2)) (k0 : xconf c → (xsum (fun i => G (30 + 9 * i + c.toNatClampNeg - 1)) np) ≠ 0 → ∀ f, f a = some (.inr (9, mO a ch sv ty ea fa ol 0 sp wr)) → Fr h.1 f a (a + 1) → Q (.inl (some (.float (FP.fdiv (FP.i2f (xsum (fun i => G (75 + 9 * i + c.toNatClampNeg - 1)) np)) (FP.i2f (xsum (fun i => G (30 + 9 * i + c.toNatClampNeg - 1)) np)))))) (f, h.2)) : xP S (d + 2) 219 0 [(0, .ref a), (1, .int c)] [] h Q := by
  refine xs_f 1 r_219_0 rfl ?_
  refine xs_f 2 r_219_1 rfl ?_
  refine xs_f 3 r_219_2 rfl ?_
  refine xs_f 5 r_219_3 rfl ?_
  refine xs_call (lv2 := [(0, _), (1, _), (2, _)]) r_219_5 rfl rfl (by decide) (xcan_1 rfl) rfl (m_150 (fun hb => ?_) (fun hb => ?_))
  · obtain ⟨j, h1, h9, hcj⟩ := xconf_nI hb
    have hcl : c.toNatClampNeg = j := by rw [hcj]; exact nI_clamp (by omega)
    rw [hcl] at k2 k0
    subst hcj
    refine xK_v rfl ?_
    refine xs_f 15 r_219_8 rfl ?_
    refine xs_f 16 r_219_15 rfl ?_
    refine xs_f 18 r_219_16 rfl ?_
    refine xs_f 19 r_219_18 rfl ?_
    refine xs_call (lv2 := [(0, _), (1, _), (2, _)]) r_219_19 rfl rfl (by decide) (xcan_0 rfl rfl (by first | assumption | exact o0) (by rfl)) rfl (m_215 o0 g0 hG h32 (z := 30) (c := j) (by omega) h1 h9 ?_)
    refine xK_v rfl ?_
    refine xs_if 25 29 r_219_22 rfl (fun hz => ?_) (fun hz => ?_)
    · refine xs_f 26 r_219_25 rfl ?_
      refine xs_f 30 r_219_26 rfl ?_
      refine xs_putC 33 r_219_30 rfl o0 (by rfl) (by rfl) (fun f3 o3 y3 => ?_)
      have g4 := g0.fr (y3 _ (by omega))
      have Y5 := (Fr.rf : Fr h.1 h.1 a (a + 1)).tr (y3.wd (by omega) (by omega))
      refine xs_f 34 r_219_33 rfl ?_
      refine xs_get 37 r_219_34 rfl rfl (by first | assumption | exact o3) (by rfl) ?_
      refine xs_f 60 r_219_37 rfl ?_
      refine xs_f 61 r_219_60 rfl ?_
      refine xs_ret r_219_61 rfl ?_
      first
        | exact k1 hb _ o3 Y5
        | exact k2 hb hz _ o3 Y5
        | exact k0 hb hz _ o3 Y5
    · refine xs_f 30 r_219_29 rfl ?_
      refine xs_putC 33 r_219_30 rfl o0 (by rfl) (by rfl) (fun f6 o6 y6 => ?_)
      have g7 := g0.fr (y6 _ (by omega))
      have Y8 := (Fr.rf : Fr h.1 h.1 a (a + 1)).tr (y6.wd (by omega) (by omega))
      refine xs_f 34 r_219_33 rfl ?_
      refine xs_get 37 r_219_34 rfl rfl (by first | assumption | exact o6) (by rfl) ?_
      refine xs_f 40 r_219_37 rfl ?_
      refine xs_f 41 r_219_40 rfl ?_
      refine xs_f 43 r_219_41 rfl ?_
      refine xs_f 44 r_219_43 rfl ?_
      refine xs_call (lv2 := [(0, _), (1, _), (2, _)]) r_219_44 rfl rfl (by decide) (xcan_0 rfl rfl (by first | assumption | exact o6) (by rfl)) rfl (m_215 o6 g7 hG h32 (z := 75) (c := j) (by omega) h1 h9 ?_)
      refine xK_v rfl ?_
      refine xs_f 48 r_219_47 rfl ?_
      refine xs_f 49 r_219_48 rfl ?_
      refine xs_f 51 r_219_49 rfl ?_
      refine xs_f 52 r_219_51 rfl ?_
      refine xs_call (lv2 := [(0, _), (1, _), (2, _)]) r_219_52 rfl rfl (by decide) (xcan_0 rfl rfl (by first | assumption | exact o6) (by rfl)) rfl (m_215 o6 g7 hG h32 (z := 30) (c := j) (by omega) h1 h9 ?_)
      refine xK_v rfl ?_
      refine xs_f 56 r_219_55 rfl ?_
      refine xs_fdiv 57 r_219_56 rfl hz ?_
      refine xs_f 61 r_219_57 rfl ?_
      refine xs_ret r_219_61 rfl ?_
      first
        | exact k1 hb _ o6 Y8
        | exact k2 hb hz _ o6 Y8
        | exact k0 hb hz _ o6 Y8
  · refine xK_v rfl ?_
    refine xs_f 11 r_219_8 rfl ?_
    refine xs_f 12 r_219_11 rfl ?_
    refine xs_f 30 r_219_12 rfl ?_
    refine xs_putC 33 r_219_30 rfl o0 (by rfl) (by rfl) (fun f11 o11 y11 => ?_)
    have g12 := g0.fr (y11 _ (by omega))
    have Y13 := (Fr.rf : Fr h.1 h.1 a (a + 1)).tr (y11.wd (by omega) (by omega))
    refine xs_f 34 r_219_33 rfl ?_
    refine xs_get 37 r_219_34 rfl rfl (by first | assumption | exact o11) (by rfl) ?_
    refine xs_f 60 r_219_37 rfl ?_
    refine xs_f 61 r_219_60 rfl ?_
    refine xs_ret r_219_61 rfl ?_
    first
      | exact k1 hb _ o11 Y13
      | exact k2 hb hz _ o11 Y13
      | exact k0 hb hz _ o11 Y13

