/-! the reference writes a question -/
theorem ndg_4 (v : Nat) : ndg v ≤ 4 := by unfold ndg; (repeat' split) <;> omega
theorem ndg_3 {v : Nat} (h : v < 1000) : ndg v ≤ 3 := by unfold ndg; (repeat' split) <;> omega
def wrA (x v : Nat) (s : XL) : XL := wrN v (psL s (nI x))
theorem wrA_1 {x v : Nat} {s : XL} : (wrA x v s).1 = s.1 + 1 + ndg v := wrD_1
def nv (x : Int32) : Nat := x.toNatClampNeg
def wrE (e : XEst) (s : XL) : XL := wrA 99 (nv e.2.2.2.1) (wrA 45 (nv e.2.2.1) (wrA 58 (nv e.2.1) (wrA 32 (nv e.1) s)))
def wrS (E : Nat → XEst) (s : XL) : Nat → XL
  | 0 => s
  | r + 1 => wrE (E r) (wrS E s r)
def okW (e : XEst) : Prop := ∃ v0 v1 v2 v3 : Nat, (e.1 = nI v0 ∧ v0 < 1000) ∧ (e.2.1 = nI v1 ∧ v1 < 1000) ∧ (e.2.2.1 = nI v2 ∧ v2 < 1000) ∧ (e.2.2.2.1 = nI v3 ∧ v3 < 1000)
theorem nv_n {x : Int32} {v : Nat} (h : x = nI v) (hv : v < 1000) : nv x = v := by unfold nv; rw [h]; exact nI_clamp (by omega)
theorem wrE_1 {e : XEst} {s : XL} (h : okW e) : (wrE e s).1 ≤ s.1 + 16 := by
  obtain ⟨v0, v1, v2, v3, ⟨e0, h0⟩, ⟨e1, h1⟩, ⟨e2, h2⟩, ⟨e3, h3⟩⟩ := h
  unfold wrE
  rw [nv_n e0 h0, nv_n e1 h1, nv_n e2 h2, nv_n e3 h3, wrA_1, wrA_1, wrA_1, wrA_1]
  have a0 := ndg_3 h0
  have a1 := ndg_3 h1
  have a2 := ndg_3 h2
  have a3 := ndg_3 h3
  omega
theorem wrS_1 {E : Nat → XEst} {s : XL} : ∀ {r : Nat}, (∀ k, k < r → okW (E k)) → (wrS E s r).1 ≤ s.1 + 16 * r
  | 0, _ => Nat.le_refl _
  | r + 1, h => by
    have h1 := wrS_1 (s := s) (r := r) (fun k hk => h k (by omega))
    have h2 := wrE_1 (s := wrS E s r) (h r (by omega))
    show (wrE (E r) (wrS E s r)).1 ≤ _
    omega
theorem ml_237 {S : XSc} {d : Nat} {h : XH} {Q : XO → XH → Prop} {a : Nat} {ch sv ty ea fa th sp wr n : Int32} {G : Nat → Int32} {np no : Nat} {mn : Nat → Nat} (g0 : IA h.1 0 (a + 1) 288 G) (hG : WG G np no mn) (h32 : 32 ≤ a) {i : Nat} (hi6 : i < 6) {s0 : XL} (hs0 : s0.1 ≤ 10) (hE : ∀ r, r < mn i → okW (gE G i r)) (kS : ∀ f, f a = some (.inr (9, mO a ch sv ty ea fa (nI (wrS (gE G i) s0 (mn i)).1) 0 sp wr)) → IA f 3 (a + 6) 100 (wrS (gE G i) s0 (mn i)).2 → Fl6 h.1 f a → Q (.inl (some (.int (nI (wrS (gE G i) s0 (mn i)).1)))) (f, h.2)) : ∀ (m : Nat) (r : Nat) (f1 : Nat → Option XE), mn i - r < m → (r ≤ mn i) → (f1 a = some (.inr (9, mO a ch sv ty ea fa (nI (wrS (gE G i) s0 r).1) th sp wr))) → (IA f1 3 (a + 6) 100 (wrS (gE G i) s0 r).2) → (Fl6 h.1 f1 a) → xP S (d + 3) 237 46 [(0, .ref a), (1, .int n), (2, .int (nI i)), (3, .int (nI r))] [] (f1, h.2) Q := by
  intro m
  induction m with
  | zero => intro r f1 hm; exact absurd hm (Nat.not_lt_zero _)
  | succ m ih =>
    intro r f1 hm hr o1 l1 F1
    have mn5 := (hG.2.2 i hi6).2
    have g1 := g0.fr (F1 (a + 1) (by omega))
    refine xs_f 47 r_237_46 rfl ?_
    refine xs_f 48 r_237_47 rfl ?_
    refine xs_get 51 r_237_48 rfl rfl o1 (by rfl) ?_
    refine xs_f 54 r_237_51 rfl ?_
    refine xs_f 55 r_237_54 rfl ?_
    refine xs_f 56 r_237_55 rfl ?_
    refine xs_aldI 57 r_237_56 (fun _ _ => rfl) rfl rfl rfl (j := (132 + i)) (nI_addE (nI_k 132) rfl) g1 (by omega) ?_
    rw [(hG.2.2 i hi6).1]
    refine xs_if 133 60 r_237_57 rfl (fun hc1 => ?_) (fun hc1 => ?_)
    · have hc1 := (nI_leN rfl rfl (by omega) (by omega)).mp hc1
      have e9 : r = mn i := by omega
      subst e9
      refine xs_f 134 r_237_133 rfl ?_
      refine xs_f 135 r_237_134 rfl ?_
      refine xs_get 138 r_237_135 rfl rfl o1 (by rfl) ?_
      refine xs_call (lv2 := [(0, _), (1, _)]) r_237_138 rfl rfl (by decide) (xcan_0 rfl rfl o1 (by rfl)) rfl ?_
      refine xs_f 1 r_152_0 rfl ?_
      refine xs_f 2 r_152_1 rfl ?_
      refine xs_putC 5 r_152_2 rfl o1 (by rfl) (by rfl) (fun f9 x9 y9 => ?_)
      refine xs_f 6 r_152_5 rfl ?_
      refine xs_ret r_152_6 rfl ?_
      refine xK_v rfl ?_
      refine xs_ret r_237_141 rfl ?_
      exact kS f9 x9 (l1.fr (y9 _ (by omega))) (fun c hc => (y9 c (by omega)).trans (F1 c hc))
    · have hc1 := mt (nI_leN rfl rfl (by omega) (by omega)).mpr hc1
      obtain ⟨v0, v1, v2, v3, ⟨e0, h0⟩, ⟨e1, h1⟩, ⟨e2, h2⟩, ⟨e3, h3⟩⟩ := hE r (by omega)
      have a0 := ndg_3 h0
      have a1 := ndg_3 h1
      have a2 := ndg_3 h2
      have b1 := wrS_1 (s := s0) (r := r) (fun k hk => hE k (by omega))
      have q1 := wrA_1 (x := 32) (v := v0) (s := (wrS (gE G i) s0 r))
      have q2 := wrA_1 (x := 58) (v := v1) (s := wrA 32 v0 (wrS (gE G i) s0 r))
      have q3 := wrA_1 (x := 45) (v := v2) (s := wrA 58 v1 (wrA 32 v0 (wrS (gE G i) s0 r)))
      refine xs_f 61 r_237_60 rfl ?_
      refine xs_f 62 r_237_61 rfl ?_
      refine xs_call (lv2 := [(0, _), (1, _)]) r_237_62 rfl rfl (by decide) (xcan_1 rfl) rfl ?_
      refine xs_f 3 r_159_0 rfl ?_
      refine xs_f 5 r_159_3 rfl ?_
      refine xs_f 6 r_159_5 rfl ?_
      refine xs_f 7 r_159_6 rfl ?_
      refine xs_f 8 r_159_7 rfl ?_
      refine xs_f 9 r_159_8 rfl ?_
      refine xs_f 10 r_159_9 rfl ?_
      refine xs_f 11 r_159_10 rfl ?_
      refine xs_f 12 r_159_11 rfl ?_
      refine xs_ret r_159_12 rfl ?_
      refine xK_v rfl ?_
      refine xs_f 67 (lv2 := [(4, _), (0, _), (1, _), (2, _), (3, _)]) r_237_65 rfl ?_
      refine xs_f 68 r_237_67 rfl ?_
      refine xs_f 70 r_237_68 rfl ?_
      refine xs_f 71 r_237_70 rfl ?_
      refine xs_get 74 r_237_71 rfl rfl o1 (by rfl) ?_
      refine xs_f 76 r_237_74 rfl ?_
      refine xs_f 77 r_237_76 rfl ?_
      refine xs_f 78 r_237_77 rfl ?_
      refine xs_aldI 79 r_237_78 (fun _ _ => rfl) rfl rfl rfl (j := (((138 + (25 * i)) + (5 * r)) + 0)) (nI_addE (nI_addE (nI_addE (nI_k 138) (nI_mulE (nI_k 25) rfl)) (nI_mulE (nI_k 5) rfl)) (nI_k 0)) g1 (by omega) ?_
      refine xs_call (lv2 := [(0, _), (1, _), (2, _)]) r_237_79 rfl rfl (by decide) (xcan_0 rfl rfl o1 (by rfl)) rfl (xP_lv [(0, .ref a), (1, .int (nI 32)), (2, .int (nI v0))] rfl ⟨rfl, rfl, (congrArg (fun z => some (Value.int z)) e0), trivial⟩ (m_236 (h := (f1, h.2)) o1 l1 h32 (by omega) (x := 32) (by omega) (by omega) (fun f2 o2 l2 y2 => ?_)))
      refine xK_0 rfl ?_
      have F2 := F1.tr y2
      have g2 := g0.fr (F2 (a + 1) (by omega))
      refine xs_f 83 r_237_82 rfl ?_
      refine xs_f 85 r_237_83 rfl ?_
      refine xs_f 86 r_237_85 rfl ?_
      refine xs_get 89 r_237_86 rfl rfl o2 (by rfl) ?_
      refine xs_f 91 r_237_89 rfl ?_
      refine xs_f 92 r_237_91 rfl ?_
      refine xs_f 93 r_237_92 rfl ?_
      refine xs_aldI 94 r_237_93 (fun _ _ => rfl) rfl rfl rfl (j := (((138 + (25 * i)) + (5 * r)) + 1)) (nI_addE (nI_addE (nI_addE (nI_k 138) (nI_mulE (nI_k 25) rfl)) (nI_mulE (nI_k 5) rfl)) (nI_k 1)) g2 (by omega) ?_
      refine xs_call (lv2 := [(0, _), (1, _), (2, _)]) r_237_94 rfl rfl (by decide) (xcan_0 rfl rfl o2 (by rfl)) rfl (xP_lv [(0, .ref a), (1, .int (nI 58)), (2, .int (nI v1))] rfl ⟨rfl, rfl, (congrArg (fun z => some (Value.int z)) e1), trivial⟩ (m_236 (h := (f2, h.2)) o2 l2 h32 (by show (wrA 32 v0 (wrS (gE G i) s0 r)).1 + 5 ≤ 100; omega) (x := 58) (by omega) (by omega) (fun f3 o3 l3 y3 => ?_)))
      refine xK_0 rfl ?_
      have F3 := F2.tr y3
      have g3 := g0.fr (F3 (a + 1) (by omega))
      refine xs_f 98 r_237_97 rfl ?_
      refine xs_f 100 r_237_98 rfl ?_
      refine xs_f 101 r_237_100 rfl ?_
      refine xs_get 104 r_237_101 rfl rfl o3 (by rfl) ?_
      refine xs_f 106 r_237_104 rfl ?_
      refine xs_f 107 r_237_106 rfl ?_
      refine xs_f 108 r_237_107 rfl ?_
      refine xs_aldI 109 r_237_108 (fun _ _ => rfl) rfl rfl rfl (j := (((138 + (25 * i)) + (5 * r)) + 2)) (nI_addE (nI_addE (nI_addE (nI_k 138) (nI_mulE (nI_k 25) rfl)) (nI_mulE (nI_k 5) rfl)) (nI_k 2)) g3 (by omega) ?_
      refine xs_call (lv2 := [(0, _), (1, _), (2, _)]) r_237_109 rfl rfl (by decide) (xcan_0 rfl rfl o3 (by rfl)) rfl (xP_lv [(0, .ref a), (1, .int (nI 45)), (2, .int (nI v2))] rfl ⟨rfl, rfl, (congrArg (fun z => some (Value.int z)) e2), trivial⟩ (m_236 (h := (f3, h.2)) o3 l3 h32 (by show (wrA 58 v1 (wrA 32 v0 (wrS (gE G i) s0 r))).1 + 5 ≤ 100; omega) (x := 45) (by omega) (by omega) (fun f4 o4 l4 y4 => ?_)))
      refine xK_0 rfl ?_
      have F4 := F3.tr y4
      have g4 := g0.fr (F4 (a + 1) (by omega))
      refine xs_f 113 r_237_112 rfl ?_
      refine xs_f 115 r_237_113 rfl ?_
      refine xs_f 116 r_237_115 rfl ?_
      refine xs_get 119 r_237_116 rfl rfl o4 (by rfl) ?_
      refine xs_f 121 r_237_119 rfl ?_
      refine xs_f 122 r_237_121 rfl ?_
      refine xs_f 123 r_237_122 rfl ?_
      refine xs_aldI 124 r_237_123 (fun _ _ => rfl) rfl rfl rfl (j := (((138 + (25 * i)) + (5 * r)) + 3)) (nI_addE (nI_addE (nI_addE (nI_k 138) (nI_mulE (nI_k 25) rfl)) (nI_mulE (nI_k 5) rfl)) (nI_k 3)) g4 (by omega) ?_
      refine xs_call (lv2 := [(0, _), (1, _), (2, _)]) r_237_124 rfl rfl (by decide) (xcan_0 rfl rfl o4 (by rfl)) rfl (xP_lv [(0, .ref a), (1, .int (nI 99)), (2, .int (nI v3))] rfl ⟨rfl, rfl, (congrArg (fun z => some (Value.int z)) e3), trivial⟩ (m_236 (h := (f4, h.2)) o4 l4 h32 (by show (wrA 45 v2 (wrA 58 v1 (wrA 32 v0 (wrS (gE G i) s0 r)))).1 + 5 ≤ 100; omega) (x := 99) (by omega) (by omega) (fun f5 o5 l5 y5 => ?_)))
      refine xK_0 rfl ?_
      have F5 := F4.tr y5
      refine xs_f 130 (lv2 := [(3, _), (4, _), (0, _), (1, _), (2, _)]) r_237_127 rfl ?_
      refine xs_f 46 r_237_130 rfl ?_
      have ew : wrS (gE G i) s0 (r + 1) = wrA 99 v3 (wrA 45 v2 (wrA 58 v1 (wrA 32 v0 (wrS (gE G i) s0 r)))) := by
        show wrE (gE G i r) (wrS (gE G i) s0 r) = _
        unfold wrE
        rw [nv_n e0 h0, nv_n e1 h1, nv_n e2 h2, nv_n e3 h3]
      exact xP_lv [(0, .ref a), (1, .int n), (2, .int (nI i)), (3, .int (nI (r + 1)))] rfl ⟨rfl, rfl, rfl, (by rw [nI_succ]; rfl), trivial⟩ (ih (r + 1) f5 (by omega) (by omega) (by rw [ew]; exact o5) (by rw [ew]; exact l5) F5)

