/-! the class runs its commands -/
theorem ctC_le {Bu : Nat → Int32} {n : Nat} : ∀ {m v p c : Nat} {nu : Nat → Int32} {w : Nat}, (ctC Bu n m v p c nu).1 = some w → v ≤ w ∧ w < v + m
  | 0, v, p, c, nu, w, h => nomatch h
  | m + 1, v, p, c, nu, w, h => by
    rw [ctC_s] at h
    cases hA : (rdA Bu n p 6 0 p c nu).1 with
    | none => rw [hA] at h; exact nomatch h
    | some j =>
      rw [hA] at h
      dsimp only at h
      split at h
      · have : v = w := Option.some.inj h
        omega
      · split at h
        · have := ctC_le h
          omega
        · exact nomatch h
theorem exC_lt {Bu : Nat → Int32} {n : Nat} : ∀ {m i p c : Nat} {nu G : Nat → Int32} {w : Nat}, (exC Bu n m i p c nu G).1 = some w → w < i + m
  | 0, i, p, c, nu, G, w, h => nomatch h
  | m + 1, i, p, c, nu, G, w, h => by
    rw [exC_s] at h
    cases hA : (rdA Bu n p 6 0 p c nu).1 with
    | none =>
      rw [hA] at h
      have : i = w := Option.some.inj h
      omega
    | some j =>
      rw [hA] at h
      dsimp only at h
      split at h
      · have := exC_lt h
        omega
      · have : i = w := Option.some.inj h
        omega
def Fq (f g : Nat → Option XE) : Prop := ∀ c, (c < 32 ∨ (794 ≤ c ∧ c < 804) ∨ 807 ≤ c) → g c = f c
theorem CoX.ea {f g : Nat → Option XE} {H Sv : Nat → Int32} {pos ch : Nat} {sv : Bool} {K : Nat} {ea fa ea2 fa2 : Int32} (h : CoX f H Sv pos ch sv K ea fa) (hg : g 32 = some (.inr (8, [.ref 33, .ref 102, .ref 171, .ref 794, .ref 804, .ref 807, .int (bI sv), .int ea2, .int fa2]))) (y : ∀ c, 102 ≤ c → c < 794 → g c = f c) : CoX g H Sv pos ch sv K ea2 fa2 := by
  obtain ⟨h1, h2, h3, G, h4⟩ := h
  exact ⟨hg, h2.fr (fun c c1 c2 => y c (by omega) (by omega)), fun z => (h3 z).fr (fun c c1 c2 => y c (by omega) (by omega)), G, h4.fr (fun c c1 c2 => y c (by omega) (by omega))⟩
theorem CoX.up {f : Nat → Option XE} {H Sv : Nat → Int32} {pos ch : Nat} {sv : Bool} {K M : Nat} {ea fa : Int32} (h : CoX f H Sv pos ch sv K ea fa) (e : K ≤ M) : CoX f H Sv pos ch sv M ea fa := by
  obtain ⟨h1, h2, h3, G, h4⟩ := h
  exact ⟨h1, h2.up e, fun z => (h3 z).up e, G, h4.up e⟩
theorem e_126 {S : XSc} {d : Nat} {h : XH} {Q : XO → XH → Prop} {H Sv : Nat → Int32} {pos ch : Nat} {sv : Bool} {K : Nat} {ea fa : Int32} {G : Nat → Int32} {n p c : Nat} {Bu nu : Nat → Int32} (hX : CoX h.1 H Sv pos ch sv K ea fa) (hS : Sim h.1 33 G K) (hT : TxP h.1 804 n p c Bu nu) (hK : K ≤ 900) (kA : (ctC Bu n 60 1 0 c nu).1 = none → ∀ f, CoX f H Sv pos ch sv K (nI (ctC Bu n 60 1 0 c nu).2.1) fa → Sim f 33 G K → (∃ p2 c2 nu2, TxP f 804 0 p2 c2 Bu nu2) → Fq h.1 f → Q (.inr 1) (xbump (f, h.2))) (kB : ∀ v i, (ctC Bu n 60 1 0 c nu).1 = some v → (exC Bu n v 0 0 (ctC Bu n 60 1 0 c nu).2.2.1 (ctC Bu n 60 1 0 c nu).2.2.2 G).1 = some i → ∀ f, CoX f H Sv pos ch sv (K + v) ea (nI i) → Sim f 33 G (K + v) → (∃ p2 c2 nu2, TxP f 804 0 p2 c2 Bu nu2) → Fq h.1 f → Q (.inr 4) (xbump (f, h.2))) (kC : ∀ v, (ctC Bu n 60 1 0 c nu).1 = some v → (exC Bu n v 0 0 (ctC Bu n 60 1 0 c nu).2.2.1 (ctC Bu n 60 1 0 c nu).2.2.2 G).1 = none → ∀ f pos2, CoX f (psh ch H G) Sv pos2 (min (ch + 1) 8) sv (K + v) ea fa → Sim f 33 (exC Bu n v 0 0 (ctC Bu n 60 1 0 c nu).2.2.1 (ctC Bu n 60 1 0 c nu).2.2.2 G).2.1 (K + v) → (∃ p2 c2 nu2, TxP f 804 0 p2 c2 Bu nu2) → Fq h.1 f → Q (.inl (some (.int (nI v)))) (f, h.2)) : xP S (d + 7) 126 0 [(0, .ref 32)] [] h Q := by
  obtain ⟨o0, g1, g2, G8, g3⟩ := id hX
  have t0 := hT.1
  have g39 := g1.2.2.1.1
  refine xs_f 1 r_126_0 rfl ?_
  refine xs_get 4 r_126_1 rfl rfl (by first | assumption | exact xup_s | exact o0 | exact t0 | (refine (xup_n (by omega)).trans ?_; first | assumption | exact xup_s | exact o0 | exact t0) | (refine (xup_n (by omega)).trans ((xup_n (by omega)).trans ?_); first | assumption | exact xup_s | exact o0 | exact t0) | (refine (xup_n (by omega)).trans ((xup_n (by omega)).trans ((xup_n (by omega)).trans ?_)); first | assumption | exact xup_s | exact o0 | exact t0)) (by rfl) ?_
  refine xs_call (lv2 := [(0, _)]) r_126_4 rfl rfl (by decide) (xcan_0 rfl rfl (by first | assumption | exact xup_s | exact o0 | exact t0 | (refine (xup_n (by omega)).trans ?_; first | assumption | exact xup_s | exact o0 | exact t0) | (refine (xup_n (by omega)).trans ((xup_n (by omega)).trans ?_); first | assumption | exact xup_s | exact o0 | exact t0) | (refine (xup_n (by omega)).trans ((xup_n (by omega)).trans ((xup_n (by omega)).trans ?_)); first | assumption | exact xup_s | exact o0 | exact t0)) (by rfl)) rfl (e_42 hT (by omega) rfl (fun f1 x1 q1 y1 => ?_))
  refine xK_v rfl ?_
  have o1 := (y1 32 (by omega)).trans o0
  have t1 := x1.1
  have hH1 := g1.fr (g := f1) (fun c c1 c2 => y1 c (by omega))
  have gh1 := hH1.1
  have hS1 := hS.fr (g := f1) (fun c c1 c2 => y1 c (by omega))
  obtain ⟨fs9, b1⟩ := hS1.o
  cases hA : (ctC Bu n 60 1 0 c nu).1 with
  | none =>
    refine xs_f 8 (lv2 := [(1, _), (0, _)]) r_126_7 rfl ?_
    refine xs_f 9 r_126_8 rfl ?_
    refine xs_f 10 r_126_9 rfl ?_
    refine xs_f 13 r_126_10 rfl ?_
    refine xs_f 14 r_126_13 rfl ?_
    refine xs_f 15 r_126_14 rfl ?_
    refine xs_get 18 r_126_15 rfl rfl (by first | assumption | exact xup_s | exact o1 | exact t1 | (refine (xup_n (by omega)).trans ?_; first | assumption | exact xup_s | exact o1 | exact t1) | (refine (xup_n (by omega)).trans ((xup_n (by omega)).trans ?_); first | assumption | exact xup_s | exact o1 | exact t1) | (refine (xup_n (by omega)).trans ((xup_n (by omega)).trans ((xup_n (by omega)).trans ?_)); first | assumption | exact xup_s | exact o1 | exact t1)) (by rfl) ?_
    refine xs_call (lv2 := [(0, _)]) r_126_18 rfl rfl (by decide) (xcan_0 rfl rfl (by first | assumption | exact xup_s | exact o1 | exact t1 | (refine (xup_n (by omega)).trans ?_; first | assumption | exact xup_s | exact o1 | exact t1) | (refine (xup_n (by omega)).trans ((xup_n (by omega)).trans ?_); first | assumption | exact xup_s | exact o1 | exact t1) | (refine (xup_n (by omega)).trans ((xup_n (by omega)).trans ((xup_n (by omega)).trans ?_)); first | assumption | exact xup_s | exact o1 | exact t1)) (by rfl)) rfl (e_40 (h := (f1, h.2)) x1 (by omega) ?_)
    refine xK_v rfl ?_
    refine xs_putC 24 r_126_21 rfl (by first | assumption | exact xup_s | exact o1 | exact t1 | (refine (xup_n (by omega)).trans ?_; first | assumption | exact xup_s | exact o1 | exact t1) | (refine (xup_n (by omega)).trans ((xup_n (by omega)).trans ?_); first | assumption | exact xup_s | exact o1 | exact t1) | (refine (xup_n (by omega)).trans ((xup_n (by omega)).trans ((xup_n (by omega)).trans ?_)); first | assumption | exact xup_s | exact o1 | exact t1)) (by rfl) (by rfl) (fun f2 x2 y2 => ?_)
    have hT2 := x1.fr (g := f2) (fun c c1 c2 => y2 c (by omega))
    have t2 := hT2.1
    refine xs_f 25 r_126_24 rfl ?_
    refine xs_get 28 r_126_25 rfl rfl x2 (by rfl) ?_
    refine xs_call (lv2 := [(0, _)]) r_126_28 rfl rfl (by decide) (xcan_0 rfl rfl t2 (by rfl)) rfl (e_38 (h := (f2, h.2)) hT2 (by omega) (fun f3 x3 y3 => ?_))
    refine xK_0 rfl ?_
    refine xs_thr r_126_31 rfl ?_
    exact kA hA f3 (hX.ea ((y3 32 (by omega)).trans x2) (fun c c1 c2 => (y3 c (by omega)).trans ((y2 c (by omega)).trans (y1 c (by omega))))) (hS.fr (fun c c1 c2 => (y3 c (by omega)).trans ((y2 c (by omega)).trans (y1 c (by omega))))) ⟨_, _, _, x3⟩ (fun c hc => (y3 c (by omega)).trans ((y2 c (by omega)).trans (y1 c (by omega))))
  | some v =>
    have hv := ctC_le hA
    refine xs_f 8 (lv2 := [(1, _), (0, _)]) r_126_7 rfl ?_
    refine xs_f 9 r_126_8 rfl ?_
    refine xs_f 10 r_126_9 rfl ?_
    refine xs_if 13 42 r_126_10 rfl (fun hc1 => ?_) (fun hc1 => ?_)
    · exact absurd hc1 (nI_m1 rfl (by omega))
    · skip
      refine xs_f 43 r_126_42 rfl ?_
      refine xs_get 46 r_126_43 rfl rfl (by first | assumption | exact xup_s | exact o1 | exact t1 | exact gh1 | exact b1 | (refine (xup_n (by omega)).trans ?_; first | assumption | exact xup_s | exact o1 | exact t1 | exact gh1 | exact b1) | (refine (xup_n (by omega)).trans ((xup_n (by omega)).trans ?_); first | assumption | exact xup_s | exact o1 | exact t1 | exact gh1 | exact b1) | (refine (xup_n (by omega)).trans ((xup_n (by omega)).trans ((xup_n (by omega)).trans ?_)); first | assumption | exact xup_s | exact o1 | exact t1 | exact gh1 | exact b1)) (by rfl) ?_
      refine xs_f 47 r_126_46 rfl ?_
      refine xs_get 50 r_126_47 rfl rfl (by first | assumption | exact xup_s | exact o1 | exact t1 | exact gh1 | exact b1 | (refine (xup_n (by omega)).trans ?_; first | assumption | exact xup_s | exact o1 | exact t1 | exact gh1 | exact b1) | (refine (xup_n (by omega)).trans ((xup_n (by omega)).trans ?_); first | assumption | exact xup_s | exact o1 | exact t1 | exact gh1 | exact b1) | (refine (xup_n (by omega)).trans ((xup_n (by omega)).trans ((xup_n (by omega)).trans ?_)); first | assumption | exact xup_s | exact o1 | exact t1 | exact gh1 | exact b1)) (by rfl) ?_
      refine xs_call (lv2 := [(0, _), (1, _)]) r_126_50 rfl rfl (by decide) (xcan_0 rfl rfl (by first | assumption | exact xup_s | exact o1 | exact t1 | exact gh1 | exact b1 | (refine (xup_n (by omega)).trans ?_; first | assumption | exact xup_s | exact o1 | exact t1 | exact gh1 | exact b1) | (refine (xup_n (by omega)).trans ((xup_n (by omega)).trans ?_); first | assumption | exact xup_s | exact o1 | exact t1 | exact gh1 | exact b1) | (refine (xup_n (by omega)).trans ((xup_n (by omega)).trans ((xup_n (by omega)).trans ?_)); first | assumption | exact xup_s | exact o1 | exact t1 | exact gh1 | exact b1)) (by rfl)) rfl (e_65 (h := (f1, h.2)) hH1 (by omega) hS1 (by omega) (by omega) (fun f3 hH3 d3 y3 => ?_))
      refine xK_0 rfl ?_
      have o3 := (y3 32 (by omega)).trans o1
      have hT3 := x1.fr (g := f3) (fun c c1 c2 => y3 c (by omega))
      have hS3 := hS1.fr (g := f3) (fun c c1 c2 => y3 c (by omega))
      refine xs_f 54 r_126_53 rfl ?_
      refine xs_f 55 r_126_54 rfl ?_
      refine xs_call (lv2 := [(0, _), (1, _)]) r_126_55 rfl rfl (by decide) (xcan_0 rfl rfl o3 (by rfl)) rfl (e_144 (h := (f3, h.2)) o3 hT3 hS3 (by omega) (K2 := K + v) (by omega) (by omega) rfl (fun f4 x4 s4 y4 => ?_))
      refine xK_v rfl ?_
      have o4 := (y4 32 (by omega)).trans o3
      have t4 := x4.1
      cases hB : (exC Bu n v 0 0 (ctC Bu n 60 1 0 c nu).2.2.1 (ctC Bu n 60 1 0 c nu).2.2.2 G).1 with
      | none =>
        refine xs_f 59 (lv2 := [(2, _), (1, _), (0, _)]) r_126_58 rfl ?_
        refine xs_f 60 r_126_59 rfl ?_
        refine xs_get 63 r_126_60 rfl rfl (by first | assumption | exact xup_s | exact o4 | exact t4 | (refine (xup_n (by omega)).trans ?_; first | assumption | exact xup_s | exact o4 | exact t4) | (refine (xup_n (by omega)).trans ((xup_n (by omega)).trans ?_); first | assumption | exact xup_s | exact o4 | exact t4) | (refine (xup_n (by omega)).trans ((xup_n (by omega)).trans ((xup_n (by omega)).trans ?_)); first | assumption | exact xup_s | exact o4 | exact t4)) (by rfl) ?_
        refine xs_call (lv2 := [(0, _)]) r_126_63 rfl rfl (by decide) (xcan_0 rfl rfl (by first | assumption | exact xup_s | exact o4 | exact t4 | (refine (xup_n (by omega)).trans ?_; first | assumption | exact xup_s | exact o4 | exact t4) | (refine (xup_n (by omega)).trans ((xup_n (by omega)).trans ?_); first | assumption | exact xup_s | exact o4 | exact t4) | (refine (xup_n (by omega)).trans ((xup_n (by omega)).trans ((xup_n (by omega)).trans ?_)); first | assumption | exact xup_s | exact o4 | exact t4)) (by rfl)) rfl (e_38 (h := (f4, h.2)) x4 (by omega) (fun f5 x5 y5 => ?_))
        refine xK_0 rfl ?_
        have o5 := (y5 32 (by omega)).trans o4
        have s5 := s4.fr (g := f5) (fun c c1 c2 => y5 c (by omega))
        have hH5 := (hH3.fr (g := f5) (fun c c1 c2 => (y5 c (by omega)).trans (y4 c (by omega)))).up (Nat.le_add_right K v)
        have d5 := (d3.fr (g := f5) (fun c c1 c2 => (y5 c (by omega)).trans (y4 c (by omega)))).up (Nat.le_add_right K v)
        have g5 := hH5.1
        refine xs_f 67 r_126_66 rfl ?_
        refine xs_f 68 r_126_67 rfl ?_
        refine xs_f 98 r_126_68 rfl ?_
        refine xs_f 99 r_126_98 rfl ?_
        refine xs_get 102 r_126_99 rfl rfl o5 (by rfl) ?_
        refine xs_call (lv2 := [(0, _)]) r_126_102 rfl rfl (by decide) (xcan_0 rfl rfl g5 (by rfl)) rfl (e_66 (h := (f5, h.2)) hH5 (by omega) d5 (fun f6 x6 y6 => ?_))
        refine xK_0 rfl ?_
        refine xs_f 106 r_126_105 rfl ?_
        refine xs_ret r_126_106 rfl ?_
        have e7 : ∀ c, (c < 32 ∨ (102 ≤ c ∧ c < 171) ∨ (794 ≤ c ∧ c < 804) ∨ 807 ≤ c) → f6 c = h.1 c := fun c hc => (y6 c (by omega)).trans ((y5 c (by omega)).trans ((y4 c (by omega)).trans ((y3 c (by omega)).trans (y1 c (by omega)))))
        exact kC v hA hB f6 _ ⟨(y6 32 (by omega)).trans o5, x6, fun z => ((g2 z).fr (fun c c1 c2 => e7 c (by omega))).up (Nat.le_add_right K v), G8, (g3.fr (fun c c1 c2 => e7 c (by omega))).up (Nat.le_add_right K v)⟩ (s5.fr (fun c c1 c2 => y6 c (by omega))) ⟨_, _, _, x5.fr (fun c c1 c2 => y6 c (by omega))⟩ (fun c hc => e7 c (by omega))
      | some i =>
        have hw := exC_lt hB
        refine xs_f 59 (lv2 := [(2, _), (1, _), (0, _)]) r_126_58 rfl ?_
        refine xs_f 60 r_126_59 rfl ?_
        refine xs_get 63 r_126_60 rfl rfl (by first | assumption | exact xup_s | exact o4 | exact t4 | (refine (xup_n (by omega)).trans ?_; first | assumption | exact xup_s | exact o4 | exact t4) | (refine (xup_n (by omega)).trans ((xup_n (by omega)).trans ?_); first | assumption | exact xup_s | exact o4 | exact t4) | (refine (xup_n (by omega)).trans ((xup_n (by omega)).trans ((xup_n (by omega)).trans ?_)); first | assumption | exact xup_s | exact o4 | exact t4)) (by rfl) ?_
        refine xs_call (lv2 := [(0, _)]) r_126_63 rfl rfl (by decide) (xcan_0 rfl rfl (by first | assumption | exact xup_s | exact o4 | exact t4 | (refine (xup_n (by omega)).trans ?_; first | assumption | exact xup_s | exact o4 | exact t4) | (refine (xup_n (by omega)).trans ((xup_n (by omega)).trans ?_); first | assumption | exact xup_s | exact o4 | exact t4) | (refine (xup_n (by omega)).trans ((xup_n (by omega)).trans ((xup_n (by omega)).trans ?_)); first | assumption | exact xup_s | exact o4 | exact t4)) (by rfl)) rfl (e_38 (h := (f4, h.2)) x4 (by omega) (fun f5 x5 y5 => ?_))
        refine xK_0 rfl ?_
        have o5 := (y5 32 (by omega)).trans o4
        have s5 := s4.fr (g := f5) (fun c c1 c2 => y5 c (by omega))
        have hH5 := (hH3.fr (g := f5) (fun c c1 c2 => (y5 c (by omega)).trans (y4 c (by omega)))).up (Nat.le_add_right K v)
        have d5 := (d3.fr (g := f5) (fun c c1 c2 => (y5 c (by omega)).trans (y4 c (by omega)))).up (Nat.le_add_right K v)
        have g5 := hH5.1
        refine xs_f 67 r_126_66 rfl ?_
        refine xs_f 68 r_126_67 rfl ?_
        refine xs_if 98 71 r_126_68 rfl (fun hc1 => ?_) (fun hc1 => ?_)
        · exact absurd hc1 (nI_m1 rfl (by omega))
        · refine xs_f 72 r_126_71 rfl ?_
          refine xs_get 75 r_126_72 rfl rfl o5 (by rfl) ?_
          refine xs_f 76 r_126_75 rfl ?_
          refine xs_get 79 r_126_76 rfl rfl o5 (by rfl) ?_
          refine xs_call (lv2 := [(0, _), (1, _)]) r_126_79 rfl rfl (by decide) (xcan_0 rfl rfl g5 (by rfl)) rfl (e_68 (h := (f5, h.2)) hH5 (by omega) s5 (by omega) (by omega) d5 (fun f6 s6 y6 => ?_))
          refine xK_0 rfl ?_
          have o6 := (y6 32 (by omega)).trans o5
          refine xs_f 83 r_126_82 rfl ?_
          refine xs_f 84 r_126_83 rfl ?_
          refine xs_putC 87 r_126_84 rfl o6 (by rfl) (by rfl) (fun f7 x7 y7 => ?_)
          refine xs_thr r_126_87 rfl ?_
          have e7 : ∀ c, (c < 32 ∨ (102 ≤ c ∧ c < 171) ∨ (794 ≤ c ∧ c < 804) ∨ 807 ≤ c) → f7 c = h.1 c := fun c hc => (y7 c (by omega)).trans ((y6 c (by omega)).trans ((y5 c (by omega)).trans ((y4 c (by omega)).trans ((y3 c (by omega)).trans (y1 c (by omega))))))
          exact kB v i hA hB f7 ⟨x7, hH5.fr (fun c c1 c2 => (y7 c (by omega)).trans (y6 c (by omega))), fun z => ((g2 z).fr (fun c c1 c2 => e7 c (by omega))).up (Nat.le_add_right K v), G8, (g3.fr (fun c c1 c2 => e7 c (by omega))).up (Nat.le_add_right K v)⟩ (s6.fr (fun c c1 c2 => y7 c (by omega))) ⟨_, _, _, x5.fr (fun c c1 c2 => (y7 c (by omega)).trans (y6 c (by omega)))⟩ (fun c hc => e7 c (by omega))

