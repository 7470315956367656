/-! the reference: further answers -/
theorem ml_183b {S : XSc} {d : Nat} {h : XH} {Q : XO → XH → Prop} {a : Nat} {G : Nat → Int32} {np no : Nat} {mn : Nat → Nat} {ch sv ty ea fa ol th sp wr : Int32} (o0 : h.1 a = some (.inr (9, mO a ch sv ty ea fa ol th sp wr))) (g0 : IA h.1 0 (a + 1) 288 G) (hG : WG G np no mn) (h32 : 32 ≤ a)  {i : Nat} (hi6 : i < 6) (k : xP S (d + 1) 183 51 [(0, .ref a), (1, .int ((xsum (fun i => stkQ (gQ G mn i)) i) + xsum (fun r => (gE G i r).2.2.2.2) (mn i))), (2, .int (nI i)), (3, .int (nI (mn i)))] [] h Q) : ∀ (m : Nat) (r : Nat), mn i - r < m → (r ≤ mn i) → xP S (d + 1) 183 16 [(0, .ref a), (1, .int ((xsum (fun i => stkQ (gQ G mn i)) i) + xsum (fun r => (gE G i r).2.2.2.2) r)), (2, .int (nI i)), (3, .int (nI r))] [] h Q := by
  intro m
  induction m with
  | zero => intro r hm; exact absurd hm (Nat.not_lt_zero _)
  | succ m ih =>
    intro r hm hr
    have mn5 := (hG.2.2 i hi6).2
    refine xs_f 17 r_183_16 rfl ?_
    refine xs_f 18 r_183_17 rfl ?_
    refine xs_get 21 r_183_18 rfl rfl (by first | assumption | exact o0) (by rfl) ?_
    refine xs_f 24 r_183_21 rfl ?_
    refine xs_f 25 r_183_24 rfl ?_
    refine xs_f 26 r_183_25 rfl ?_
    refine xs_aldI 27 r_183_26 (fun _ _ => rfl) rfl rfl rfl (j := (132 + i)) (nI_addE (nI_k 132) rfl) g0 (by omega) ?_
    rw [(hG.2.2 i (by omega)).1]
    refine xs_if 51 30 r_183_27 rfl (fun hc1 => ?_) (fun hc1 => ?_)
    · have hc1 := (nI_leN rfl rfl (by omega) (by omega)).mp hc1
      have e : r = mn i := by omega
      subst e
      exact xP_lv [(0, .ref a), (1, .int ((xsum (fun i => stkQ (gQ G mn i)) i) + xsum (fun r => (gE G i r).2.2.2.2) (mn i))), (2, .int (nI i)), (3, .int (nI (mn i)))] rfl ⟨rfl, rfl, rfl, rfl, trivial⟩ (k)
    · have hc1 := mt (nI_leN rfl rfl (by omega) (by omega)).mpr hc1
      refine xs_f 31 r_183_30 rfl ?_
      refine xs_f 32 r_183_31 rfl ?_
      refine xs_get 35 r_183_32 rfl rfl (by first | assumption | exact o0) (by rfl) ?_
      refine xs_f 36 r_183_35 rfl ?_
      refine xs_f 37 r_183_36 rfl ?_
      refine xs_call (lv2 := [(0, _), (1, _)]) r_183_37 rfl rfl (by decide) (xcan_1 rfl) rfl ?_
      refine xs_f 3 r_159_0 rfl ?_
      refine xs_f 5 r_159_3 rfl ?_
      refine xs_f 6 r_159_5 rfl ?_
      refine xs_f 7 r_159_6 rfl ?_
      refine xs_f 8 r_159_7 rfl ?_
      refine xs_f 9 r_159_8 rfl ?_
      refine xs_f 10 r_159_9 rfl ?_
      refine xs_f 11 r_159_10 rfl ?_
      refine xs_f 12 r_159_11 rfl ?_
      refine xs_ret r_159_12 rfl ?_
      refine xK_v rfl ?_
      refine xs_f 41 r_183_40 rfl ?_
      refine xs_f 42 r_183_41 rfl ?_
      refine xs_aldI 43 r_183_42 (fun _ _ => rfl) rfl rfl rfl (j := (((138 + (25 * i)) + (5 * r)) + 4)) (nI_addE (nI_addE (nI_addE (nI_k 138) (nI_mulE (nI_k 25) rfl)) (nI_mulE (nI_k 5) rfl)) (nI_k 4)) g0 (by omega) ?_
      refine xs_f 44 r_183_43 rfl ?_
      refine xs_f 45 (lv2 := [(1, _), (0, _), (2, _), (3, _)]) r_183_44 rfl ?_
      refine xs_f 48 (lv2 := [(3, _), (1, _), (0, _), (2, _)]) r_183_45 rfl ?_
      refine xs_f 16 r_183_48 rfl ?_
      exact xP_lv [(0, .ref a), (1, .int ((xsum (fun i => stkQ (gQ G mn i)) i) + xsum (fun r => (gE G i r).2.2.2.2) (r + 1))), (2, .int (nI i)), (3, .int (nI (r + 1)))] rfl ⟨rfl, (by rw [show xsum (fun r => (gE G i r).2.2.2.2) (r + 1) = xsum (fun r => (gE G i r).2.2.2.2) r + (gE G i r).2.2.2.2 from rfl, ← Int32.add_assoc]; rfl), rfl, (by rw [nI_succ]; rfl), trivial⟩ (ih (r + 1) (by omega) (by omega))

theorem ml_183a {S : XSc} {d : Nat} {h : XH} {Q : XO → XH → Prop} {a : Nat} {G : Nat → Int32} {np no : Nat} {mn : Nat → Nat} {ch sv ty ea fa ol th sp wr : Int32} (o0 : h.1 a = some (.inr (9, mO a ch sv ty ea fa ol th sp wr))) (g0 : IA h.1 0 (a + 1) 288 G) (hG : WG G np no mn) (h32 : 32 ≤ a)  (k : ∀ f, f a = some (.inr (9, mO a ch sv ty ea fa ol (nI ((0, (xsum (fun i => stkQ (gQ G mn i)) no)) : XR).1) sp wr)) → Fr h.1 f a (a + 1) → Q (.inl (some (.int ((0, (xsum (fun i => stkQ (gQ G mn i)) no)) : XR).2))) (f, h.2)) : ∀ (m : Nat) (i : Nat), no - i < m → (i ≤ no) → xP S (d + 1) 183 4 [(0, .ref a), (1, .int (xsum (fun i => stkQ (gQ G mn i)) i)), (2, .int (nI i))] [] h Q := by
  intro m
  induction m with
  | zero => intro i hm; exact absurd hm (Nat.not_lt_zero _)
  | succ m ih =>
    intro i hm hi
    have no6 := hG.2.1.2
    refine xs_f 5 r_183_4 rfl ?_
    refine xs_f 6 r_183_5 rfl ?_
    refine xs_get 9 r_183_6 rfl rfl (by first | assumption | exact o0) (by rfl) ?_
    refine xs_f 10 r_183_9 rfl ?_
    refine xs_aldI 11 r_183_10 (fun _ _ => rfl) rfl rfl rfl (j := 1) (nI_k 1) g0 (by omega) ?_
    first | rw [hG.2.1.1] | skip
    refine xs_if 57 14 r_183_11 rfl (fun hc1 => ?_) (fun hc1 => ?_)
    · have hc1 := (nI_leN rfl rfl (by omega) (by omega)).mp hc1
      refine xs_f 58 r_183_57 rfl ?_
      refine xs_f 59 r_183_58 rfl ?_
      refine xs_call (lv2 := [(0, _), (1, _)]) r_183_59 rfl rfl (by decide) (xcan_0 rfl rfl (by first | assumption | exact o0) (by rfl)) rfl ?_
      refine xs_f 1 r_152_0 rfl ?_
      refine xs_f 2 r_152_1 rfl ?_
      refine xs_putC 5 r_152_2 rfl o0 (by rfl) (by rfl) (fun f1 o1 y1 => ?_)
      have g2 := g0.fr (y1 _ (by omega))
      have Y3 := (Fr.rf : Fr h.1 h.1 a (a + 1)).tr (y1.wd (by omega) (by omega))
      refine xs_f 6 r_152_5 rfl ?_
      refine xs_ret r_152_6 rfl ?_
      refine xK_v rfl ?_
      refine xs_ret r_183_62 rfl ?_
      have e : i = no := by omega
      subst e
      exact k _ o1 Y3
    · have hc1 := mt (nI_leN rfl rfl (by omega) (by omega)).mpr hc1
      refine xs_f 15 r_183_14 rfl ?_
      refine xs_f 16 (lv2 := [(3, _), (0, _), (1, _), (2, _)]) r_183_15 rfl ?_
      refine xP_lv [(0, .ref a), (1, .int ((xsum (fun i => stkQ (gQ G mn i)) i) + xsum (fun r => (gE G i r).2.2.2.2) 0)), (2, .int (nI i)), (3, .int (nI 0))] rfl ⟨rfl, (by show _ = some (Value.int ((xsum (fun i => stkQ (gQ G mn i)) i) + 0)); rw [Int32.add_zero]; rfl), rfl, rfl, trivial⟩ (ml_183b o0 g0 hG h32 (i := i) (by omega) ?_ (mn i + 1) 0 (by omega) (by omega))
      refine xs_f 54 (lv2 := [(2, _), (0, _), (1, _), (3, _)]) r_183_51 rfl ?_
      refine xs_f 4 r_183_54 rfl ?_
      exact xP_lv [(0, .ref a), (1, .int (xsum (fun i => stkQ (gQ G mn i)) (i + 1))), (2, .int (nI (i + 1)))] rfl ⟨rfl, rfl, (by rw [nI_succ]; rfl), trivial⟩ (ih (i + 1) (by omega) (by omega))

theorem m_183 {S : XSc} {d : Nat} {h : XH} {Q : XO → XH → Prop} {a : Nat} {G : Nat → Int32} {np no : Nat} {mn : Nat → Nat} {ch sv ty ea fa ol th sp wr : Int32} (o0 : h.1 a = some (.inr (9, mO a ch sv ty ea fa ol th sp wr))) (g0 : IA h.1 0 (a + 1) 288 G) (hG : WG G np no mn) (h32 : 32 ≤ a)  (k : ∀ f, f a = some (.inr (9, mO a ch sv ty ea fa ol (nI ((0, (xsum (fun i => stkQ (gQ G mn i)) no)) : XR).1) sp wr)) → Fr h.1 f a (a + 1) → Q (.inl (some (.int ((0, (xsum (fun i => stkQ (gQ G mn i)) no)) : XR).2))) (f, h.2)) : xP S (d + 1) 183 0 [(0, .ref a)] [] h Q := by
  refine xs_f 1 r_183_0 rfl ?_
  refine xs_f 2 (lv2 := [(1, _), (0, _)]) r_183_1 rfl ?_
  refine xs_f 3 r_183_2 rfl ?_
  refine xs_f 4 (lv2 := [(2, _), (1, _), (0, _)]) r_183_3 rfl ?_
  exact xP_lv [(0, .ref a), (1, .int (xsum (fun i => stkQ (gQ G mn i)) 0)), (2, .int (nI 0))] rfl ⟨rfl, rfl, rfl, trivial⟩ (ml_183a o0 g0 hG h32 k (no + 1) 0 (by omega) (by omega))

theorem ml_212 {S : XSc} {d : Nat} {h : XH} {Q : XO → XH → Prop} {a : Nat} {G : Nat → Int32} {np no : Nat} {mn : Nat → Nat} {ch sv ty ea fa ol th sp wr : Int32} (o0 : h.1 a = some (.inr (9, mO a ch sv ty ea fa ol th sp wr))) (g0 : IA h.1 0 (a + 1) 288 G) (hG : WG G np no mn) (h32 : 32 ≤ a)  (k : xP S (d + 2) 212 54 [(0, .ref a), (1, .int (optI (bst (gP G) np))), (2, .int (nI np))] [] h Q) : ∀ (m : Nat) (i : Nat), np - i < m → (i ≤ np) → xP S (d + 2) 212 4 [(0, .ref a), (1, .int (optI (bst (gP G) i))), (2, .int (nI i))] [] h Q := by
  intro m
  induction m with
  | zero => intro i hm; exact absurd hm (Nat.not_lt_zero _)
  | succ m ih =>
    intro i hm hi
    have np5 := hG.1.2
    refine xs_f 5 r_212_4 rfl ?_
    refine xs_f 6 r_212_5 rfl ?_
    refine xs_get 9 r_212_6 rfl rfl (by first | assumption | exact o0) (by rfl) ?_
    refine xs_f 10 r_212_9 rfl ?_
    refine xs_aldI 11 r_212_10 (fun _ _ => rfl) rfl rfl rfl (j := 0) (nI_k 0) g0 (by omega) ?_
    first | rw [hG.1.1] | skip
    refine xs_if 54 14 r_212_11 rfl (fun hc1 => ?_) (fun hc1 => ?_)
    · have hc1 := (nI_leN rfl rfl (by omega) (by omega)).mp hc1
      have e : i = np := by omega
      subst e
      exact k
    · have hc1 := mt (nI_leN rfl rfl (by omega) (by omega)).mpr hc1
      refine xs_f 15 r_212_14 rfl ?_
      refine xs_f 17 r_212_15 rfl ?_
      refine xs_f 18 r_212_17 rfl ?_
      refine xs_call (lv2 := [(0, _), (1, _), (2, _)]) r_212_18 rfl rfl (by decide) (xcan_0 rfl rfl (by first | assumption | exact o0) (by rfl)) rfl (m_205 o0 g0 hG h32 (z := 30) (i := i) (by omega) ?_)
      refine xK_v rfl ?_
      refine xs_if 48 24 r_212_21 rfl (fun hz0 => ?_) (fun hz0 => ?_)
      · have hz :  szP (gP G i) ≤ 0 := by rw [show szP (gP G i) = xsum (fun j => G (30 + 9 * i + j)) 9 from gB_sum G _]; exact hz0
        refine xs_f 51 (lv2 := [(2, _), (0, _), (1, _)]) r_212_48 rfl ?_
        refine xs_f 4 r_212_51 rfl ?_
        exact xP_lv [(0, .ref a), (1, .int (optI (bst (gP G) (i + 1)))), (2, .int (nI (i + 1)))] rfl ⟨rfl, (by rw [show bst (gP G) (i + 1) = bst (gP G) i from by rw [bst_s, if_pos hz]]; rfl), (by rw [nI_succ]; rfl), trivial⟩ (ih (i + 1) (by omega) (by omega))
      · have hz : ¬ szP (gP G i) ≤ 0 := by rw [show szP (gP G i) = xsum (fun j => G (30 + 9 * i + j)) 9 from gB_sum G _]; exact hz0
        cases hb : bst (gP G) i with
        | none =>
          show xP S (d + 2) 212 24 [(0, .ref a), (1, .int (-1)), (2, .int (nI i))] [] h Q
          refine xs_f 25 r_212_24 rfl ?_
          refine xs_f 26 r_212_25 rfl ?_
          refine xs_f 42 r_212_26 rfl ?_
          refine xs_f 43 r_212_42 rfl ?_
          refine xs_f 47 r_212_43 rfl ?_
          refine xs_f 48 (lv2 := [(1, _), (0, _), (2, _)]) r_212_47 rfl ?_
          refine xs_f 51 (lv2 := [(2, _), (1, _), (0, _)]) r_212_48 rfl ?_
          refine xs_f 4 r_212_51 rfl ?_
          exact xP_lv [(0, .ref a), (1, .int (optI (bst (gP G) (i + 1)))), (2, .int (nI (i + 1)))] rfl ⟨rfl, (by rw [show bst (gP G) (i + 1) = some i from by rw [bst_s, if_neg hz, hb]]; rfl), (by rw [nI_succ]; rfl), trivial⟩ (ih (i + 1) (by omega) (by omega))
        | some j =>
          have hjl := bst_lt hb
          show xP S (d + 2) 212 24 [(0, .ref a), (1, .int (nI j)), (2, .int (nI i))] [] h Q
          refine xs_f 25 r_212_24 rfl ?_
          refine xs_f 26 r_212_25 rfl ?_
          refine xs_if 42 29 r_212_26 rfl (fun h1 => ?_) (fun h1 => ?_)
          · exact absurd h1 (nI_m1 rfl (by omega))
          · refine xs_f 30 r_212_29 rfl ?_
            refine xs_f 31 r_212_30 rfl ?_
            refine xs_call (lv2 := [(0, _), (1, _)]) r_212_31 rfl rfl (by decide) (xcan_0 rfl rfl (by first | assumption | exact o0) (by rfl)) rfl (m_210 o0 g0 hG h32 (i := i) (by omega) ?_)
            refine xK_v rfl ?_
            refine xs_f 35 r_212_34 rfl ?_
            refine xs_f 36 r_212_35 rfl ?_
            refine xs_call (lv2 := [(0, _), (1, _)]) r_212_36 rfl rfl (by decide) (xcan_0 rfl rfl (by first | assumption | exact o0) (by rfl)) rfl (m_210 o0 g0 hG h32 (i := j) (by omega) ?_)
            refine xK_v rfl ?_
            refine xs_if 46 42 r_212_39 rfl (fun h2 => ?_) (fun h2 => ?_)
            · refine xs_f 47 r_212_46 rfl ?_
              refine xs_f 48 (lv2 := [(1, _), (0, _), (2, _)]) r_212_47 rfl ?_
              refine xs_f 51 (lv2 := [(2, _), (1, _), (0, _)]) r_212_48 rfl ?_
              refine xs_f 4 r_212_51 rfl ?_
              first
                | exact xP_lv [(0, .ref a), (1, .int (optI (bst (gP G) (i + 1)))), (2, .int (nI (i + 1)))] rfl ⟨rfl, (by rw [show bst (gP G) (i + 1) = some i from by rw [bst_s, if_neg hz, hb]; exact if_pos (by rw [gerr_P, gerr_P]; exact Int32.not_le.mp h2)]; rfl), (by rw [nI_succ]; rfl), trivial⟩ (ih (i + 1) (by omega) (by omega))
                | exact xP_lv [(0, .ref a), (1, .int (optI (bst (gP G) (i + 1)))), (2, .int (nI (i + 1)))] rfl ⟨rfl, (by rw [show bst (gP G) (i + 1) = some j from by rw [bst_s, if_neg hz, hb]; exact if_neg (by rw [gerr_P, gerr_P]; exact Int32.not_lt.mpr h2)]; rfl), (by rw [nI_succ]; rfl), trivial⟩ (ih (i + 1) (by omega) (by omega))
            · refine xs_f 43 r_212_42 rfl ?_
              refine xs_f 47 r_212_43 rfl ?_
              refine xs_f 48 (lv2 := [(1, _), (0, _), (2, _)]) r_212_47 rfl ?_
              refine xs_f 51 (lv2 := [(2, _), (1, _), (0, _)]) r_212_48 rfl ?_
              refine xs_f 4 r_212_51 rfl ?_
              first
                | exact xP_lv [(0, .ref a), (1, .int (optI (bst (gP G) (i + 1)))), (2, .int (nI (i + 1)))] rfl ⟨rfl, (by rw [show bst (gP G) (i + 1) = some i from by rw [bst_s, if_neg hz, hb]; exact if_pos (by rw [gerr_P, gerr_P]; exact Int32.not_le.mp h2)]; rfl), (by rw [nI_succ]; rfl), trivial⟩ (ih (i + 1) (by omega) (by omega))
                | exact xP_lv [(0, .ref a), (1, .int (optI (bst (gP G) (i + 1)))), (2, .int (nI (i + 1)))] rfl ⟨rfl, (by rw [show bst (gP G) (i + 1) = some j from by rw [bst_s, if_neg hz, hb]; exact if_neg (by rw [gerr_P, gerr_P]; exact Int32.not_lt.mpr h2)]; rfl), (by rw [nI_succ]; rfl), trivial⟩ (ih (i + 1) (by omega) (by omega))

theorem m_212 {S : XSc} {d : Nat} {h : XH} {Q : XO → XH → Prop} {a : Nat} {G : Nat → Int32} {np no : Nat} {mn : Nat → Nat} {ch sv ty ea fa ol th sp wr : Int32} (o0 : h.1 a = some (.inr (9, mO a ch sv ty ea fa ol th sp wr))) (g0 : IA h.1 0 (a + 1) 288 G) (hG : WG G np no mn) (h32 : 32 ≤ a)  (k : ∀ f, f a = some (.inr (9, mO a ch sv ty ea fa ol (nI (R_opt (bst (gP G) np)).1) sp wr)) → Fr h.1 f a (a + 1) → Q (.inl (some (.int (R_opt (bst (gP G) np)).2))) (f, h.2)) : xP S (d + 2) 212 0 [(0, .ref a)] [] h Q := by
  have np5 := hG.1.2
  refine xs_f 1 r_212_0 rfl ?_
  refine xs_f 2 (lv2 := [(1, _), (0, _)]) r_212_1 rfl ?_
  refine xs_f 3 r_212_2 rfl ?_
  refine xs_f 4 (lv2 := [(2, _), (1, _), (0, _)]) r_212_3 rfl ?_
  refine xP_lv [(0, .ref a), (1, .int (optI (bst (gP G) 0))), (2, .int (nI 0))] rfl ⟨rfl, rfl, rfl, trivial⟩ (ml_212 o0 g0 hG h32 ?_ (np + 1) 0 (by omega) (by omega))
  cases hb : bst (gP G) np with
  | none =>
    show xP S (d + 2) 212 54 [(0, .ref a), (1, .int (-1)), (2, .int (nI np))] [] h Q
    refine xs_f 55 r_212_54 rfl ?_
    refine xs_f 56 r_212_55 rfl ?_
    refine xs_f 59 r_212_56 rfl ?_
    refine xs_f 60 r_212_59 rfl ?_
    refine xs_f 61 r_212_60 rfl ?_
    refine xs_call (lv2 := [(0, _), (1, _)]) r_212_61 rfl rfl (by decide) (xcan_0 rfl rfl (by first | assumption | exact o0) (by rfl)) rfl ?_
    refine xs_f 1 r_153_0 rfl ?_
    refine xs_f 2 r_153_1 rfl ?_
    refine xs_putC 5 r_153_2 rfl o0 (by rfl) (by rfl) (fun f1 o1 y1 => ?_)
    have g2 := g0.fr (y1 _ (by omega))
    have Y3 := (Fr.rf : Fr h.1 h.1 a (a + 1)).tr (y1.wd (by omega) (by omega))
    refine xs_f 6 r_153_5 rfl ?_
    refine xs_ret r_153_6 rfl ?_
    refine xK_v rfl ?_
    refine xs_f 72 r_212_64 rfl ?_
    refine xs_ret r_212_72 rfl ?_
    exact mq k (by rw [hb]; rfl) o1 Y3
  | some j =>
    have hjl := bst_lt hb
    show xP S (d + 2) 212 54 [(0, .ref a), (1, .int (nI j)), (2, .int (nI np))] [] h Q
    refine xs_f 55 r_212_54 rfl ?_
    refine xs_f 56 r_212_55 rfl ?_
    refine xs_if 59 67 r_212_56 rfl (fun hc1 => ?_) (fun hc1 => ?_)
    · exact absurd hc1 (nI_m1 rfl (by omega))
    · refine xs_f 68 r_212_67 rfl ?_
      refine xs_f 69 r_212_68 rfl ?_
      refine xs_call (lv2 := [(0, _), (1, _)]) r_212_69 rfl rfl (by decide) (xcan_0 rfl rfl (by first | assumption | exact o0) (by rfl)) rfl ?_
      refine xs_f 1 r_152_0 rfl ?_
      refine xs_f 2 r_152_1 rfl ?_
      refine xs_putC 5 r_152_2 rfl o0 (by rfl) (by rfl) (fun f1 o1 y1 => ?_)
      have g2 := g0.fr (y1 _ (by omega))
      have Y3 := (Fr.rf : Fr h.1 h.1 a (a + 1)).tr (y1.wd (by omega) (by omega))
      refine xs_f 6 r_152_5 rfl ?_
      refine xs_ret r_152_6 rfl ?_
      refine xK_v rfl ?_
      refine xs_ret r_212_72 rfl ?_
      exact mq k (by rw [hb]; rfl) o1 Y3

/-- scores and hits are small -/
def smP (G : Nat → Int32) (i : Nat) : Prop := ∃ s t : Nat, s ≤ 1000000000 ∧ t ≤ 1000000000 ∧ G (20 + i) = nI s ∧ xsum (fun j => G (75 + 9 * i + j)) 9 = nI t
theorem nI_subI {a b : Nat} (ha : a ≤ 1000000000) (hb : b ≤ 1000000000) : (nI a - nI b).toInt = (a : Int) - b := by
  rw [Int32.toInt_sub, nI_toInt (by omega), nI_toInt (by omega)]
  refine Int.bmod_eq_of_le ?_ ?_ <;> omega
theorem nI_subP {a b : Nat} (ha : a ≤ 1000000000) (hb : b ≤ 1000000000) : (0 < nI a - nI b ↔ b < a) ∧ (nI a - nI b = 0 ↔ a = b) := by
  have e := nI_subI ha hb
  refine ⟨?_, ?_⟩
  · rw [Int32.lt_iff_toInt_lt, e, show (0 : Int32).toInt = 0 from rfl]
    omega
  · refine ⟨fun z => ?_, fun z => ?_⟩
    · rw [z, show (0 : Int32).toInt = 0 from rfl] at e
      omega
    · subst z
      exact Int32.sub_self _
/-- who is ahead, in numbers -/
theorem prec_N {G : Nat → Int32} {k i s1 t1 s2 t2 : Nat} (h1 : G (20 + k) = nI s1) (h2 : xsum (fun j => G (75 + 9 * k + j)) 9 = nI t1) (h3 : G (20 + i) = nI s2) (h4 : xsum (fun j => G (75 + 9 * i + j)) 9 = nI t2) (g1 : s1 ≤ 1000000000) (g2 : t1 ≤ 1000000000) (g3 : s2 ≤ 1000000000) (g4 : t2 ≤ 1000000000) : prec (gP G) k i = decide (s2 < s1 ∨ (s2 = s1 ∧ (t1 < t2 ∨ (t1 = t2 ∧ i < k)))) := by
  have b : ∀ {x y sx tx sy ty : Nat}, G (20 + x) = nI sx → xsum (fun j => G (75 + 9 * x + j)) 9 = nI tx → G (20 + y) = nI sy → xsum (fun j => G (75 + 9 * y + j)) 9 = nI ty → sx ≤ 1000000000 → tx ≤ 1000000000 → sy ≤ 1000000000 → ty ≤ 1000000000 → betB (gP G x) (gP G y) = decide (sx < sy ∨ (sx = sy ∧ ty < tx)) := by
    intro x y sx tx sy ty e1 e2 e3 e4 l1 l2 l3 l4
    have e5 : (gP G x).2.1 = nI sx := e1
    have e6 : (gP G y).2.1 = nI sy := e3
    have e7 : xsum (gP G x).2.2.2.2 10 = nI tx := (gB_sum G _).trans e2
    have e8 : xsum (gP G y).2.2.2.2 10 = nI ty := (gB_sum G _).trans e4
    by_cases z : sx = sy
    · subst z
      rw [betB_t (e5.trans e6.symm), e7, e8]
      refine decide_eq_decide.mpr ?_
      rw [nI_ltI (by omega) (by omega)]
      omega
    · rw [betB_f (by rw [e5, e6, nI_eq (by omega) (by omega)]; exact z), e5, e6]
      refine decide_eq_decide.mpr ?_
      rw [nI_ltI (by omega) (by omega)]
      omega
  unfold prec
  by_cases z : i < k
  · rw [decide_eq_true z, cond_true, b h1 h2 h3 h4 g1 g2 g3 g4, ← decide_not]
    refine decide_eq_decide.mpr ?_
    omega
  · rw [decide_eq_false z, cond_false, b h3 h4 h1 h2 g3 g4 g1 g2]
    refine decide_eq_decide.mpr ?_
    omega
theorem m_213 {S : XSc} {d : Nat} {h : XH} {Q : XO → XH → Prop} {a : Nat} {G : Nat → Int32} {np no : Nat} {mn : Nat → Nat} {ch sv ty ea fa ol th sp wr : Int32} (o0 : h.1 a = some (.inr (9, mO a ch sv ty ea fa ol th sp wr))) (g0 : IA h.1 0 (a + 1) 288 G) (hG : WG G np no mn) (h32 : 32 ≤ a) {i x : Nat} (hi : i < 5) (hx : x < 5) (h1 : smP G x) (h2 : smP G i) (k : Q (.inl (some (.int (bI (prec (gP G) x i))))) h) : xP S (d + 1) 213 0 [(0, .ref a), (1, .int (nI i)), (2, .int (nI x))] [] h Q := by
  obtain ⟨s1, t1, g1, g2, e1, e2⟩ := h1
  obtain ⟨s2, t2, g3, g4, e3, e4⟩ := h2
  have hp := prec_N e1 e2 e3 e4 g1 g2 g3 g4
  obtain ⟨u1, u2⟩ := nI_subP g1 g3
  obtain ⟨u3, u4⟩ := nI_subP g4 g2
  refine xs_f 1 r_213_0 rfl ?_
  refine xs_get 4 r_213_1 rfl rfl (by first | assumption | exact o0) (by rfl) ?_
  refine xs_f 6 r_213_4 rfl ?_
  refine xs_f 7 r_213_6 rfl ?_
  refine xs_f 8 r_213_7 rfl ?_
  refine xs_aldI 9 r_213_8 (fun _ _ => rfl) rfl rfl rfl (j := (20 + x)) (nI_addE (nI_k 20) rfl) g0 (by omega) ?_
  refine xs_f 10 r_213_9 rfl ?_
  refine xs_get 13 r_213_10 rfl rfl (by first | assumption | exact o0) (by rfl) ?_
  refine xs_f 15 r_213_13 rfl ?_
  refine xs_f 16 r_213_15 rfl ?_
  refine xs_f 17 r_213_16 rfl ?_
  refine xs_aldI 18 r_213_17 (fun _ _ => rfl) rfl rfl rfl (j := (20 + i)) (nI_addE (nI_k 20) rfl) g0 (by omega) ?_
  refine xs_f 19 r_213_18 rfl ?_
  rw [e1, e3]
  refine xs_f 20 (lv2 := [(3, _), (0, _), (1, _), (2, _)]) r_213_19 rfl ?_
  refine xs_f 21 r_213_20 rfl ?_
  refine xs_f 23 r_213_21 rfl ?_
  refine xs_f 24 r_213_23 rfl ?_
  refine xs_call (lv2 := [(0, _), (1, _), (2, _)]) r_213_24 rfl rfl (by decide) (xcan_0 rfl rfl (by first | assumption | exact o0) (by rfl)) rfl (m_205 o0 g0 hG h32 (z := 75) (i := i) (by omega) ?_)
  refine xK_v rfl ?_
  refine xs_f 28 r_213_27 rfl ?_
  refine xs_f 30 r_213_28 rfl ?_
  refine xs_f 31 r_213_30 rfl ?_
  refine xs_call (lv2 := [(0, _), (1, _), (2, _)]) r_213_31 rfl rfl (by decide) (xcan_0 rfl rfl (by first | assumption | exact o0) (by rfl)) rfl (m_205 o0 g0 hG h32 (z := 75) (i := x) (by omega) ?_)
  refine xK_v rfl ?_
  rw [e2, e4]
  refine xs_f 35 r_213_34 rfl ?_
  refine xs_f 37 (lv2 := [(4, _), (3, _), (0, _), (1, _), (2, _)]) r_213_35 rfl ?_
  refine xs_f 38 r_213_37 rfl ?_
  refine xs_if 60 41 r_213_38 rfl (fun n1 => ?_) (fun n1 => ?_)
  · have n1 := u1.mp n1
    refine xs_f 61 r_213_60 rfl ?_
    refine xs_f 65 r_213_61 rfl ?_
    refine xs_ret r_213_65 rfl ?_
    rw [hp] at k
    first
      | exact xq_b1 k (decide_eq_true (by omega))
      | exact xq_b0 k (decide_eq_false (by omega))
  · have n1 := mt u1.mpr n1
    refine xs_f 42 r_213_41 rfl ?_
    refine xs_if 45 64 r_213_42 rfl (fun n2 => ?_) (fun n2 => ?_)
    · have n2 := u2.mp n2
      refine xs_f 47 r_213_45 rfl ?_
      refine xs_if 60 50 r_213_47 rfl (fun n3 => ?_) (fun n3 => ?_)
      · have n3 := u3.mp n3
        refine xs_f 61 r_213_60 rfl ?_
        refine xs_f 65 r_213_61 rfl ?_
        refine xs_ret r_213_65 rfl ?_
        rw [hp] at k
        first
          | exact xq_b1 k (decide_eq_true (by omega))
          | exact xq_b0 k (decide_eq_false (by omega))
      · have n3 := mt u3.mpr n3
        refine xs_f 52 r_213_50 rfl ?_
        refine xs_if 55 64 r_213_52 rfl (fun n4 => ?_) (fun n4 => ?_)
        · have n4 := u4.mp n4
          refine xs_f 56 r_213_55 rfl ?_
          refine xs_f 57 r_213_56 rfl ?_
          refine xs_if 64 60 r_213_57 rfl (fun hc5 => ?_) (fun hc5 => ?_)
          · have hc5 := (nI_leN rfl rfl (by omega) (by omega)).mp hc5
            refine xs_f 65 r_213_64 rfl ?_
            refine xs_ret r_213_65 rfl ?_
            rw [hp] at k
            first
              | exact xq_b1 k (decide_eq_true (by omega))
              | exact xq_b0 k (decide_eq_false (by omega))
          · have hc5 := mt (nI_leN rfl rfl (by omega) (by omega)).mpr hc5
            refine xs_f 61 r_213_60 rfl ?_
            refine xs_f 65 r_213_61 rfl ?_
            refine xs_ret r_213_65 rfl ?_
            rw [hp] at k
            first
              | exact xq_b1 k (decide_eq_true (by omega))
              | exact xq_b0 k (decide_eq_false (by omega))
        · have n4 := mt u4.mpr n4
          refine xs_f 65 r_213_64 rfl ?_
          refine xs_ret r_213_65 rfl ?_
          rw [hp] at k
          first
            | exact xq_b1 k (decide_eq_true (by omega))
            | exact xq_b0 k (decide_eq_false (by omega))
    · have n2 := mt u2.mpr n2
      refine xs_f 65 r_213_64 rfl ?_
      refine xs_ret r_213_65 rfl ?_
      rw [hp] at k
      first
        | exact xq_b1 k (decide_eq_true (by omega))
        | exact xq_b0 k (decide_eq_false (by omega))

theorem ml_214b {S : XSc} {d : Nat} {h : XH} {Q : XO → XH → Prop} {a : Nat} {G : Nat → Int32} {np no : Nat} {mn : Nat → Nat} {ch sv ty ea fa ol th sp wr : Int32} (o0 : h.1 a = some (.inr (9, mO a ch sv ty ea fa ol th sp wr))) (g0 : IA h.1 0 (a + 1) 288 G) (hG : WG G np no mn) (h32 : 32 ≤ a)  {p : Int32} {x : Nat} (hx : x < np) (hsm : ∀ i, i < np → smP G i) (k : xP S (d + 2) 214 52 [(0, .ref a), (1, .int p), (2, .int (nI x)), (3, .int (nI (cntB (prec (gP G) x) np))), (4, .int (nI np))] [] h Q) : ∀ (m : Nat) (i : Nat), np - i < m → (i ≤ np) → xP S (d + 2) 214 17 [(0, .ref a), (1, .int p), (2, .int (nI x)), (3, .int (nI (cntB (prec (gP G) x) i))), (4, .int (nI i))] [] h Q := by
  intro m
  induction m with
  | zero => intro i hm; exact absurd hm (Nat.not_lt_zero _)
  | succ m ih =>
    intro i hm hi
    have np5 := hG.1.2
    have cl := cntB_le (prec (gP G) x) i
    refine xs_f 19 r_214_17 rfl ?_
    refine xs_f 20 r_214_19 rfl ?_
    refine xs_get 23 r_214_20 rfl rfl (by first | assumption | exact o0) (by rfl) ?_
    refine xs_f 24 r_214_23 rfl ?_
    refine xs_aldI 25 r_214_24 (fun _ _ => rfl) rfl rfl rfl (j := 0) (nI_k 0) g0 (by omega) ?_
    first | rw [hG.1.1] | skip
    refine xs_if 52 28 r_214_25 rfl (fun hc1 => ?_) (fun hc1 => ?_)
    · have hc1 := (nI_leN rfl rfl (by omega) (by omega)).mp hc1
      have e : np = i := by omega
      subst e
      exact xP_lv [(0, .ref a), (1, .int p), (2, .int (nI x)), (3, .int (nI (cntB (prec (gP G) x) np))), (4, .int (nI np))] rfl ⟨rfl, rfl, rfl, rfl, rfl, trivial⟩ (k)
    · have hc1 := mt (nI_leN rfl rfl (by omega) (by omega)).mpr hc1
      refine xs_f 29 r_214_28 rfl ?_
      refine xs_f 30 r_214_29 rfl ?_
      refine xs_f 32 r_214_30 rfl ?_
      refine xs_f 33 r_214_32 rfl ?_
      refine xs_call (lv2 := [(0, _), (1, _), (2, _)]) r_214_33 rfl rfl (by decide) (xcan_0 rfl rfl (by first | assumption | exact o0) (by rfl)) rfl (m_213 o0 g0 hG h32 (by omega) (by omega) (hsm x hx) (hsm i (by omega)) ?_)
      refine xK_v rfl ?_
      refine xs_if 43 39 r_214_36 rfl (fun hw0 => ?_) (fun hw0 => ?_)
      · have hw := (bI_0 _).mp hw0
        refine xs_f 44 r_214_43 rfl ?_
        refine xs_f 45 r_214_44 rfl ?_
        refine xs_f 46 (lv2 := [(3, _), (0, _), (1, _), (2, _), (4, _)]) r_214_45 rfl ?_
        refine xs_f 49 (lv2 := [(4, _), (3, _), (0, _), (1, _), (2, _)]) r_214_46 rfl ?_
        refine xs_f 17 r_214_49 rfl ?_
        first
          | exact xP_lv [(0, .ref a), (1, .int p), (2, .int (nI x)), (3, .int (nI (cntB (prec (gP G) x) (i + 1)))), (4, .int (nI (i + 1)))] rfl ⟨rfl, rfl, rfl, (by rw [show (cntB (prec (gP G) x) (i + 1)) = (cntB (prec (gP G) x) i) + 1 from by rw [cntB_s, hw]; rfl, nI_succ]; rfl), (by rw [nI_succ]; rfl), trivial⟩ (ih (i + 1) (by omega) (by omega))
          | exact xP_lv [(0, .ref a), (1, .int p), (2, .int (nI x)), (3, .int (nI (cntB (prec (gP G) x) (i + 1)))), (4, .int (nI (i + 1)))] rfl ⟨rfl, rfl, rfl, (by rw [show (cntB (prec (gP G) x) (i + 1)) = (cntB (prec (gP G) x) i)  from by rw [cntB_s, hw]; rfl]; exact congrArg (fun z => some (Value.int z)) (Int32.add_zero _)), (by rw [nI_succ]; rfl), trivial⟩ (ih (i + 1) (by omega) (by omega))
      · have hw := bI_n0 hw0
        refine xs_f 40 r_214_39 rfl ?_
        refine xs_f 44 r_214_40 rfl ?_
        refine xs_f 45 r_214_44 rfl ?_
        refine xs_f 46 (lv2 := [(3, _), (0, _), (1, _), (2, _), (4, _)]) r_214_45 rfl ?_
        refine xs_f 49 (lv2 := [(4, _), (3, _), (0, _), (1, _), (2, _)]) r_214_46 rfl ?_
        refine xs_f 17 r_214_49 rfl ?_
        first
          | exact xP_lv [(0, .ref a), (1, .int p), (2, .int (nI x)), (3, .int (nI (cntB (prec (gP G) x) (i + 1)))), (4, .int (nI (i + 1)))] rfl ⟨rfl, rfl, rfl, (by rw [show (cntB (prec (gP G) x) (i + 1)) = (cntB (prec (gP G) x) i) + 1 from by rw [cntB_s, hw]; rfl, nI_succ]; rfl), (by rw [nI_succ]; rfl), trivial⟩ (ih (i + 1) (by omega) (by omega))
          | exact xP_lv [(0, .ref a), (1, .int p), (2, .int (nI x)), (3, .int (nI (cntB (prec (gP G) x) (i + 1)))), (4, .int (nI (i + 1)))] rfl ⟨rfl, rfl, rfl, (by rw [show (cntB (prec (gP G) x) (i + 1)) = (cntB (prec (gP G) x) i)  from by rw [cntB_s, hw]; rfl]; exact congrArg (fun z => some (Value.int z)) (Int32.add_zero _)), (by rw [nI_succ]; rfl), trivial⟩ (ih (i + 1) (by omega) (by omega))

theorem ml_214a {S : XSc} {d : Nat} {h : XH} {Q : XO → XH → Prop} {a : Nat} {G : Nat → Int32} {np no : Nat} {mn : Nat → Nat} {ch sv ty ea fa ol th sp wr : Int32} (o0 : h.1 a = some (.inr (9, mO a ch sv ty ea fa ol th sp wr))) (g0 : IA h.1 0 (a + 1) 288 G) (hG : WG G np no mn) (h32 : 32 ≤ a)  {p : Int32} (hsm : ∀ i, i < np → smP G i) (k : ∀ f, f a = some (.inr (9, mO a ch sv ty ea fa ol (nI (R_by np (gP G) p).1) sp wr)) → Fr h.1 f a (a + 1) → Q (.inl (some (.int (R_by np (gP G) p).2))) (f, h.2)) : ∀ (m : Nat) (x : Nat), np - x < m → (x ≤ np) → (∀ j, j < x → nI (cntB (prec (gP G) j) np) ≠ p) → xP S (d + 2) 214 2 [(0, .ref a), (1, .int p), (2, .int (nI x))] [] h Q := by
  intro m
  induction m with
  | zero => intro x hm; exact absurd hm (Nat.not_lt_zero _)
  | succ m ih =>
    intro x hm hx hj
    have np5 := hG.1.2
    refine xs_f 3 r_214_2 rfl ?_
    refine xs_f 4 r_214_3 rfl ?_
    refine xs_get 7 r_214_4 rfl rfl (by first | assumption | exact o0) (by rfl) ?_
    refine xs_f 8 r_214_7 rfl ?_
    refine xs_aldI 9 r_214_8 (fun _ _ => rfl) rfl rfl rfl (j := 0) (nI_k 0) g0 (by omega) ?_
    first | rw [hG.1.1] | skip
    refine xs_if 69 12 r_214_9 rfl (fun hc1 => ?_) (fun hc1 => ?_)
    · have hc1 := (nI_leN rfl rfl (by omega) (by omega)).mp hc1
      refine xs_f 70 r_214_69 rfl ?_
      refine xs_f 71 r_214_70 rfl ?_
      refine xs_call (lv2 := [(0, _), (1, _)]) r_214_71 rfl rfl (by decide) (xcan_0 rfl rfl (by first | assumption | exact o0) (by rfl)) rfl ?_
      refine xs_f 1 r_153_0 rfl ?_
      refine xs_f 2 r_153_1 rfl ?_
      refine xs_putC 5 r_153_2 rfl o0 (by rfl) (by rfl) (fun f1 o1 y1 => ?_)
      have g2 := g0.fr (y1 _ (by omega))
      have Y3 := (Fr.rf : Fr h.1 h.1 a (a + 1)).tr (y1.wd (by omega) (by omega))
      refine xs_f 6 r_153_5 rfl ?_
      refine xs_ret r_153_6 rfl ?_
      refine xK_v rfl ?_
      refine xs_ret r_214_74 rfl ?_
      exact mq k (by
        have e : fnd (fun i => decide (nI (cntB (prec (gP G) i) np) = p)) np = np := fnd_no (fun j hjm => decide_eq_false (hj j (by omega)))
        unfold R_by
        dsimp only
        rw [e, if_neg (by omega)]
        rfl) o1 Y3
    · have hc1 := mt (nI_leN rfl rfl (by omega) (by omega)).mpr hc1
      refine xs_f 13 r_214_12 rfl ?_
      refine xs_f 14 (lv2 := [(3, _), (0, _), (1, _), (2, _)]) r_214_13 rfl ?_
      refine xs_f 15 r_214_14 rfl ?_
      refine xs_f 17 (lv2 := [(4, _), (3, _), (0, _), (1, _), (2, _)]) r_214_15 rfl ?_
      refine xP_lv [(0, .ref a), (1, .int p), (2, .int (nI x)), (3, .int (nI (cntB (prec (gP G) x) 0))), (4, .int (nI 0))] rfl ⟨rfl, rfl, rfl, rfl, rfl, trivial⟩ (ml_214b o0 g0 hG h32 (x := x) (by omega) hsm ?_ (np + 1) 0 (by omega) (by omega))
      refine xs_f 53 r_214_52 rfl ?_
      refine xs_f 54 r_214_53 rfl ?_
      refine xs_if 57 63 r_214_54 rfl (fun he => ?_) (fun he => ?_)
      · refine xs_f 58 r_214_57 rfl ?_
        refine xs_f 59 r_214_58 rfl ?_
        refine xs_call (lv2 := [(0, _), (1, _)]) r_214_59 rfl rfl (by decide) (xcan_0 rfl rfl (by first | assumption | exact o0) (by rfl)) rfl ?_
        refine xs_f 1 r_152_0 rfl ?_
        refine xs_f 2 r_152_1 rfl ?_
        refine xs_putC 5 r_152_2 rfl o0 (by rfl) (by rfl) (fun f1 o1 y1 => ?_)
        have g2 := g0.fr (y1 _ (by omega))
        have Y3 := (Fr.rf : Fr h.1 h.1 a (a + 1)).tr (y1.wd (by omega) (by omega))
        refine xs_f 6 r_152_5 rfl ?_
        refine xs_ret r_152_6 rfl ?_
        refine xK_v rfl ?_
        refine xs_ret r_214_62 rfl ?_
        exact mq k (by
          have e : fnd (fun i => decide (nI (cntB (prec (gP G) i) np) = p)) np = x := fnd_at (by omega) (decide_eq_true he) (fun j hj2 => decide_eq_false (hj j hj2))
          unfold R_by
          dsimp only
          rw [e, if_pos (by omega)]
          rfl) o1 Y3
      · refine xs_f 66 (lv2 := [(2, _), (0, _), (1, _), (3, _), (4, _)]) r_214_63 rfl ?_
        refine xs_f 2 r_214_66 rfl ?_
        exact xP_lv [(0, .ref a), (1, .int p), (2, .int (nI (x + 1)))] rfl ⟨rfl, rfl, (by rw [nI_succ]; rfl), trivial⟩ (ih (x + 1) (by omega) (by omega) (fun j hj2 => by
          rcases Nat.lt_or_ge j x with z | z
          · exact hj j z
          · rw [show j = x by omega]; exact he))

theorem m_214 {S : XSc} {d : Nat} {h : XH} {Q : XO → XH → Prop} {a : Nat} {G : Nat → Int32} {np no : Nat} {mn : Nat → Nat} {ch sv ty ea fa ol th sp wr : Int32} (o0 : h.1 a = some (.inr (9, mO a ch sv ty ea fa ol th sp wr))) (g0 : IA h.1 0 (a + 1) 288 G) (hG : WG G np no mn) (h32 : 32 ≤ a)  {p : Int32} (hsm : ∀ i, i < np → smP G i) (k : ∀ f, f a = some (.inr (9, mO a ch sv ty ea fa ol (nI (R_by np (gP G) p).1) sp wr)) → Fr h.1 f a (a + 1) → Q (.inl (some (.int (R_by np (gP G) p).2))) (f, h.2)) : xP S (d + 2) 214 0 [(0, .ref a), (1, .int p)] [] h Q := by
  refine xs_f 1 r_214_0 rfl ?_
  refine xs_f 2 (lv2 := [(2, _), (0, _), (1, _)]) r_214_1 rfl ?_
  exact xP_lv [(0, .ref a), (1, .int p), (2, .int (nI 0))] rfl ⟨rfl, rfl, rfl, trivial⟩ (ml_214a o0 g0 hG h32 hsm k (np + 1) 0 (by omega) (by omega) (fun j hj => absurd hj (Nat.not_lt_zero _)))

