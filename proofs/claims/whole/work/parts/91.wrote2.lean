/-! the reference writes a question: the call -/
theorem pla_n {q : Nat → XQu} {no : Nat} {n : Int32} (h : pla q no n < no) : (q (pla q no n)).1 = n := of_decide_eq_true (fnd_p (p := fun i => decide ((q i).1 = n)) h)
theorem m_237 {S : XSc} {d : Nat} {h : XH} {Q : XO → XH → Prop} {a : Nat} {ch sv ty ea fa ol th sp wr n : Int32} {G Le : Nat → Int32} {np no : Nat} {mn : Nat → Nat} (o0 : h.1 a = some (.inr (9, mO a ch sv ty ea fa ol th sp wr))) (g0 : IA h.1 0 (a + 1) 288 G) (hG : WG G np no mn) (l0 : IA h.1 3 (a + 6) 100 Le) (h32 : 32 ≤ a) (hN : ∀ j, j < no → ∃ v, v < 1000 ∧ G (120 + j) = nI v) (hW : ∀ j, j < no → ∃ v, v < 1000 ∧ G (126 + j) = nI v) (hE : ∀ j, j < no → ∀ r, r < mn j → okW (gE G j r)) (kF : (pla (gQ G mn) no n) = no → ∀ f, f a = some (.inr (9, mO a ch sv ty ea fa ol 1 sp wr)) → IA f 3 (a + 6) 100 Le → Fl6 h.1 f a → Q (.inl (some (.int 0))) (f, h.2)) (kS : (pla (gQ G mn) no n) < no → ∀ f, f a = some (.inr (9, mO a ch sv ty ea fa (nI (wrS (gE G (pla (gQ G mn) no n)) (wrA 119 (nv (G (126 + (pla (gQ G mn) no n)))) (wrA 113 (nv n) (0, Le))) (mn (pla (gQ G mn) no n))).1) 0 sp wr)) → IA f 3 (a + 6) 100 (wrS (gE G (pla (gQ G mn) no n)) (wrA 119 (nv (G (126 + (pla (gQ G mn) no n)))) (wrA 113 (nv n) (0, Le))) (mn (pla (gQ G mn) no n))).2 → Fl6 h.1 f a → Q (.inl (some (.int (nI (wrS (gE G (pla (gQ G mn) no n)) (wrA 119 (nv (G (126 + (pla (gQ G mn) no n)))) (wrA 113 (nv n) (0, Le))) (mn (pla (gQ G mn) no n))).1)))) (f, h.2)) : xP S (d + 3) 237 0 [(0, .ref a), (1, .int n)] [] h Q := by
  have no6 := hG.2.1.2
  refine xs_f 1 r_237_0 rfl ?_
  refine xs_f 2 r_237_1 rfl ?_
  refine xs_call (lv2 := [(0, _), (1, _)]) r_237_2 rfl rfl (by decide) (xcan_0 rfl rfl (by first | assumption | exact xup_s | exact o0 | (refine (xup_n (by omega)).trans ?_; first | assumption | exact xup_s | exact o0) | (refine (xup_n (by omega)).trans ((xup_n (by omega)).trans ?_); first | assumption | exact xup_s | exact o0) | (refine (xup_n (by omega)).trans ((xup_n (by omega)).trans ((xup_n (by omega)).trans ?_)); first | assumption | exact xup_s | exact o0)) (by rfl)) rfl (m_158 o0 g0 hG h32 (fun hq => ?_) (fun hq => ?_))
  · have no6 := hG.2.1.2
    obtain ⟨v, hv, ev⟩ := hN _ hq
    obtain ⟨w, hw, ew⟩ := hW _ hq
    have en : n = nI v := (pla_n hq).symm.trans ev
    refine xK_v rfl ?_
    refine xs_f 6 (lv2 := [(2, _), (0, _), (1, _)]) r_237_5 rfl ?_
    refine xs_f 7 r_237_6 rfl ?_
    refine xs_f 8 r_237_7 rfl ?_
    refine xs_if 11 17 r_237_8 rfl (fun hc1 => ?_) (fun hc1 => ?_)
    · exact absurd hc1 (nI_m1 rfl (by omega))
    · refine xs_f 18 r_237_17 rfl ?_
      refine xs_f 19 r_237_18 rfl ?_
      refine xs_putC 22 r_237_19 rfl (by first | assumption | exact xup_s | exact o0 | (refine (xup_n (by omega)).trans ?_; first | assumption | exact xup_s | exact o0) | (refine (xup_n (by omega)).trans ((xup_n (by omega)).trans ?_); first | assumption | exact xup_s | exact o0) | (refine (xup_n (by omega)).trans ((xup_n (by omega)).trans ((xup_n (by omega)).trans ?_)); first | assumption | exact xup_s | exact o0)) (by rfl) (by rfl) (fun f1 x1 y1 => ?_)
      have o1 : f1 a = some (.inr (9, mO a ch sv ty ea fa (nI 0) th sp wr)) := x1
      have l1 := l0.fr (y1 (a + 6) (by omega))
      have F1 : Fl6 h.1 f1 a := fun c hc => y1 c (by omega)
      refine xs_f 23 r_237_22 rfl ?_
      refine xs_f 25 r_237_23 rfl ?_
      refine xs_f 26 r_237_25 rfl ?_
      refine xs_call (lv2 := [(0, _), (1, _), (2, _)]) r_237_26 rfl rfl (by decide) (xcan_0 rfl rfl o1 (by rfl)) rfl (xP_lv [(0, .ref a), (1, .int (nI 113)), (2, .int (nI v))] rfl ⟨rfl, rfl, (congrArg (fun z => some (Value.int z)) en), trivial⟩ (m_236 (h := (f1, h.2)) (on := 0) (Le := Le) o1 l1 h32 (by omega) (x := 113) (by omega) (by omega) (fun f2 o2 l2 y2 => ?_)))
      refine xK_0 rfl ?_
      have F2 := F1.tr y2
      have g2 := g0.fr (F2 (a + 1) (by omega))
      have q1 := wrA_1 (x := 113) (v := v) (s := (0, Le))
      have d4 := ndg_4 v
      have d3 := ndg_4 w
      refine xs_f 30 r_237_29 rfl ?_
      refine xs_f 32 r_237_30 rfl ?_
      refine xs_f 33 r_237_32 rfl ?_
      refine xs_get 36 r_237_33 rfl rfl o2 (by rfl) ?_
      refine xs_f 38 r_237_36 rfl ?_
      refine xs_f 39 r_237_38 rfl ?_
      refine xs_f 40 r_237_39 rfl ?_
      refine xs_aldI 41 r_237_40 (fun _ _ => rfl) rfl rfl rfl (j := (126 + (pla (gQ G mn) no n))) (nI_addE (nI_k 126) rfl) g2 (by omega) ?_
      refine xs_call (lv2 := [(0, _), (1, _), (2, _)]) r_237_41 rfl rfl (by decide) (xcan_0 rfl rfl o2 (by rfl)) rfl (xP_lv [(0, .ref a), (1, .int (nI 119)), (2, .int (nI w))] rfl ⟨rfl, rfl, (congrArg (fun z => some (Value.int z)) ew), trivial⟩ (m_236 (h := (f2, h.2)) o2 l2 h32 (by show (wrA 113 v (0, Le)).1 + 5 ≤ 100; omega) (x := 119) (by omega) (by omega) (fun f3 o3 l3 y3 => ?_)))
      refine xK_0 rfl ?_
      have F3 := F2.tr y3
      have q2 := wrA_1 (x := 119) (v := w) (s := wrA 113 v (0, Le))
      have z1 : nv n = v := nv_n en hv
      have z2 : nv (G (126 + (pla (gQ G mn) no n))) = w := nv_n ew hw
      rw [z1, z2] at kS
      refine xs_f 45 r_237_44 rfl ?_
      refine xs_f 46 (lv2 := [(3, _), (2, _), (0, _), (1, _)]) r_237_45 rfl ?_
      exact xP_lv [(0, .ref a), (1, .int n), (2, .int (nI (pla (gQ G mn) no n))), (3, .int (nI 0))] rfl ⟨rfl, rfl, rfl, rfl, trivial⟩ (ml_237 (h := h) (s0 := wrA 119 w (wrA 113 v (0, Le))) g0 hG h32 (by omega) (by show (wrA 119 w (wrA 113 v (0, Le))).1 ≤ 10; omega) (hE _ hq) (kS hq) (mn (pla (gQ G mn) no n) + 1) 0 f3 (by omega) (by omega) o3 l3 F3)
  · refine xK_v rfl ?_
    refine xs_f 6 (lv2 := [(2, _), (0, _), (1, _)]) r_237_5 rfl ?_
    refine xs_f 7 r_237_6 rfl ?_
    refine xs_f 8 r_237_7 rfl ?_
    refine xs_f 11 r_237_8 rfl ?_
    refine xs_f 12 r_237_11 rfl ?_
    refine xs_f 13 r_237_12 rfl ?_
    refine xs_call (lv2 := [(0, _), (1, _)]) r_237_13 rfl rfl (by decide) (xcan_0 rfl rfl (by first | assumption | exact xup_s | exact o0 | (refine (xup_n (by omega)).trans ?_; first | assumption | exact xup_s | exact o0) | (refine (xup_n (by omega)).trans ((xup_n (by omega)).trans ?_); first | assumption | exact xup_s | exact o0) | (refine (xup_n (by omega)).trans ((xup_n (by omega)).trans ((xup_n (by omega)).trans ?_)); first | assumption | exact xup_s | exact o0)) (by rfl)) rfl ?_
    refine xs_f 1 r_153_0 rfl ?_
    refine xs_f 2 r_153_1 rfl ?_
    refine xs_putC 5 r_153_2 rfl (by first | assumption | exact xup_s | exact o0 | (refine (xup_n (by omega)).trans ?_; first | assumption | exact xup_s | exact o0) | (refine (xup_n (by omega)).trans ((xup_n (by omega)).trans ?_); first | assumption | exact xup_s | exact o0) | (refine (xup_n (by omega)).trans ((xup_n (by omega)).trans ((xup_n (by omega)).trans ?_)); first | assumption | exact xup_s | exact o0)) (by rfl) (by rfl) (fun f1 x1 y1 => ?_)
    refine xs_f 6 r_153_5 rfl ?_
    refine xs_ret r_153_6 rfl ?_
    refine xK_v rfl ?_
    refine xs_ret r_237_16 rfl ?_
    exact kF hq f1 x1 (l0.fr (y1 _ (by omega))) (fun c hc => y1 c (by omega))

