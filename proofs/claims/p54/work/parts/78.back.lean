/-! the class goes back, saves, restores -/
theorem e_131 {S : XSc} {d : Nat} {h : XH} {Q : XO → XH → Prop} {H Sv : Nat → Int32} {pos ch : Nat} {sv : Bool} {K : Nat} {ea fa : Int32} {G : Nat → Int32} (hX : CoX h.1 H Sv pos ch sv K ea fa) (hS : Sim h.1 33 G K) (k : Q (.inl (some (.int (nI ch)))) h) : xP S d 131 0 [(0, .ref 32)] [] h Q := by
  obtain ⟨o0, g1, g2, G8, g3⟩ := id hX
  obtain ⟨fs9, o9⟩ := hS.o
  obtain ⟨fs8, o8⟩ := g3.o
  have gh := g1.1
  have h8 := g1.2.2.1.2
  refine xs_f 1 r_131_0 rfl ?_
  refine xs_get 4 r_131_1 rfl rfl (by first | assumption | exact xup_s | exact o0 | exact gh | (refine (xup_n (by omega)).trans ?_; first | assumption | exact xup_s | exact o0 | exact gh) | (refine (xup_n (by omega)).trans ((xup_n (by omega)).trans ?_); first | assumption | exact xup_s | exact o0 | exact gh) | (refine (xup_n (by omega)).trans ((xup_n (by omega)).trans ((xup_n (by omega)).trans ?_)); first | assumption | exact xup_s | exact o0 | exact gh)) (by rfl) ?_
  refine xs_get 7 r_131_4 rfl rfl (by first | assumption | exact xup_s | exact o0 | exact gh | (refine (xup_n (by omega)).trans ?_; first | assumption | exact xup_s | exact o0 | exact gh) | (refine (xup_n (by omega)).trans ((xup_n (by omega)).trans ?_); first | assumption | exact xup_s | exact o0 | exact gh) | (refine (xup_n (by omega)).trans ((xup_n (by omega)).trans ((xup_n (by omega)).trans ?_)); first | assumption | exact xup_s | exact o0 | exact gh)) (by rfl) ?_
  refine xs_ret r_131_7 rfl ?_
  exact k

theorem e_132 {S : XSc} {d : Nat} {h : XH} {Q : XO → XH → Prop} {H Sv : Nat → Int32} {pos ch : Nat} {sv : Bool} {K : Nat} {ea fa : Int32} {G : Nat → Int32} (hX : CoX h.1 H Sv pos ch sv K ea fa) (hS : Sim h.1 33 G K) (k0 : ch = 0 → Q (.inr 0) (xbump h)) (kS : 0 < ch → ∀ f pos, CoX f H Sv pos (ch - 1) sv K ea fa → Sim f 33 (fun j => H ((ch - 1) * 288 + j)) K → Fr h.1 f 32 794 → Q (.inl (some (.int (nI (ch - 1))))) (f, h.2)) : xP S (d + 6) 132 0 [(0, .ref 32)] [] h Q := by
  obtain ⟨o0, g1, g2, G8, g3⟩ := id hX
  obtain ⟨fs9, o9⟩ := hS.o
  obtain ⟨fs8, o8⟩ := g3.o
  have gh := g1.1
  have h8 := g1.2.2.1.2
  refine xs_f 1 r_132_0 rfl ?_
  refine xs_get 4 r_132_1 rfl rfl (by first | assumption | exact xup_s | exact o0 | exact gh | (refine (xup_n (by omega)).trans ?_; first | assumption | exact xup_s | exact o0 | exact gh) | (refine (xup_n (by omega)).trans ((xup_n (by omega)).trans ?_); first | assumption | exact xup_s | exact o0 | exact gh) | (refine (xup_n (by omega)).trans ((xup_n (by omega)).trans ((xup_n (by omega)).trans ?_)); first | assumption | exact xup_s | exact o0 | exact gh)) (by rfl) ?_
  refine xs_get 7 r_132_4 rfl rfl (by first | assumption | exact xup_s | exact o0 | exact gh | (refine (xup_n (by omega)).trans ?_; first | assumption | exact xup_s | exact o0 | exact gh) | (refine (xup_n (by omega)).trans ((xup_n (by omega)).trans ?_); first | assumption | exact xup_s | exact o0 | exact gh) | (refine (xup_n (by omega)).trans ((xup_n (by omega)).trans ((xup_n (by omega)).trans ?_)); first | assumption | exact xup_s | exact o0 | exact gh)) (by rfl) ?_
  refine xs_if 10 21 r_132_7 rfl (fun hc1 => ?_) (fun hc1 => ?_)
  · have hc1 := (nI_eqN rfl (nI_k 0) (by omega) (by omega)).mp hc1
    refine xs_thr r_132_10 rfl ?_
    exact k0 (by omega)
  · have hc1 := mt (nI_eqN rfl (nI_k 0) (by omega) (by omega)).mpr hc1
    refine xs_f 22 r_132_21 rfl ?_
    refine xs_get 25 r_132_22 rfl rfl (by first | assumption | exact xup_s | exact o0 | exact gh | (refine (xup_n (by omega)).trans ?_; first | assumption | exact xup_s | exact o0 | exact gh) | (refine (xup_n (by omega)).trans ((xup_n (by omega)).trans ?_); first | assumption | exact xup_s | exact o0 | exact gh) | (refine (xup_n (by omega)).trans ((xup_n (by omega)).trans ((xup_n (by omega)).trans ?_)); first | assumption | exact xup_s | exact o0 | exact gh)) (by rfl) ?_
    refine xs_f 26 r_132_25 rfl ?_
    refine xs_get 29 r_132_26 rfl rfl (by first | assumption | exact xup_s | exact o0 | exact gh | (refine (xup_n (by omega)).trans ?_; first | assumption | exact xup_s | exact o0 | exact gh) | (refine (xup_n (by omega)).trans ((xup_n (by omega)).trans ?_); first | assumption | exact xup_s | exact o0 | exact gh) | (refine (xup_n (by omega)).trans ((xup_n (by omega)).trans ((xup_n (by omega)).trans ?_)); first | assumption | exact xup_s | exact o0 | exact gh)) (by rfl) ?_
    refine xs_call (lv2 := [(0, _), (1, _)]) r_132_29 rfl rfl (by decide) (xcan_0 rfl rfl (by first | assumption | exact xup_s | exact o0 | exact gh | (refine (xup_n (by omega)).trans ?_; first | assumption | exact xup_s | exact o0 | exact gh) | (refine (xup_n (by omega)).trans ((xup_n (by omega)).trans ?_); first | assumption | exact xup_s | exact o0 | exact gh) | (refine (xup_n (by omega)).trans ((xup_n (by omega)).trans ((xup_n (by omega)).trans ?_)); first | assumption | exact xup_s | exact o0 | exact gh)) (by rfl)) rfl (e_69 g1 (by omega) hS (by omega) (by omega) (by omega) (fun f1 x1 s1 y1 => ?_))
    refine xK_0 rfl ?_
    have o1 := (y1 32 (by omega) (by omega)).trans o0
    have gh1 := x1.1
    refine xs_f 33 r_132_32 rfl ?_
    refine xs_get 36 r_132_33 rfl rfl o1 (by rfl) ?_
    refine xs_get 39 r_132_36 rfl rfl gh1 (by rfl) ?_
    refine xs_ret r_132_39 rfl ?_
    exact kS (by omega) f1 _ ⟨o1, x1, fun z => (g2 z).fr (fun c c1 c2 => y1 c (by omega) (by omega)), G8, g3.fr (fun c c1 c2 => y1 c (by omega) (by omega))⟩ s1 (fun c hc => y1 c (by omega) (by omega))

theorem e_133 {S : XSc} {d : Nat} {h : XH} {Q : XO → XH → Prop} {H Sv : Nat → Int32} {pos ch : Nat} {sv : Bool} {K : Nat} {ea fa : Int32} {G : Nat → Int32} (hX : CoX h.1 H Sv pos ch sv K ea fa) (hS : Sim h.1 33 G K) {np no : Nat} {nn : Int32} {N sc : Nat} {ho : Int32} {TS TH tr : Nat → Int32} {pl : Nat → XPl} {q : Nat → XQu} {s : Nat → Nat} {R : Nat → Nat → Nat} (hB : BdP h.1 33 np no nn sc ho TS TH tr pl q s R) (kS : ∀ f, CoX f H G pos ch true K ea fa → Sim f 33 G K → Fr h.1 f 32 794 → Q (.inl (some (.int (nI no)))) (f, h.2)) : xP S (d + 5) 133 0 [(0, .ref 32)] [] h Q := by
  obtain ⟨o0, g1, g2, G8, g3⟩ := id hX
  obtain ⟨fs9, o9⟩ := hS.o
  obtain ⟨fs8, o8⟩ := g3.o
  have gh := g1.1
  have h8 := g1.2.2.1.2
  have b1 := hB.1
  refine xs_f 1 r_133_0 rfl ?_
  refine xs_get 4 r_133_1 rfl rfl (by first | assumption | exact xup_s | exact o0 | exact gh | exact o8 | (refine (xup_n (by omega)).trans ?_; first | assumption | exact xup_s | exact o0 | exact gh | exact o8) | (refine (xup_n (by omega)).trans ((xup_n (by omega)).trans ?_); first | assumption | exact xup_s | exact o0 | exact gh | exact o8) | (refine (xup_n (by omega)).trans ((xup_n (by omega)).trans ((xup_n (by omega)).trans ?_)); first | assumption | exact xup_s | exact o0 | exact gh | exact o8)) (by rfl) ?_
  refine xs_f 5 r_133_4 rfl ?_
  refine xs_get 8 r_133_5 rfl rfl (by first | assumption | exact xup_s | exact o0 | exact gh | exact o8 | (refine (xup_n (by omega)).trans ?_; first | assumption | exact xup_s | exact o0 | exact gh | exact o8) | (refine (xup_n (by omega)).trans ((xup_n (by omega)).trans ?_); first | assumption | exact xup_s | exact o0 | exact gh | exact o8) | (refine (xup_n (by omega)).trans ((xup_n (by omega)).trans ((xup_n (by omega)).trans ?_)); first | assumption | exact xup_s | exact o0 | exact gh | exact o8)) (by rfl) ?_
  refine xs_call (lv2 := [(0, _), (1, _)]) r_133_8 rfl rfl (by decide) (xcan_0 rfl rfl (by first | assumption | exact xup_s | exact o0 | exact gh | exact o8 | (refine (xup_n (by omega)).trans ?_; first | assumption | exact xup_s | exact o0 | exact gh | exact o8) | (refine (xup_n (by omega)).trans ((xup_n (by omega)).trans ?_); first | assumption | exact xup_s | exact o0 | exact gh | exact o8) | (refine (xup_n (by omega)).trans ((xup_n (by omega)).trans ((xup_n (by omega)).trans ?_)); first | assumption | exact xup_s | exact o0 | exact gh | exact o8)) (by rfl)) rfl (c_11s g3 hS (by omega) (by omega) (by omega) (fun f1 x1 y1 => ?_))
  refine xK_0 rfl ?_
  have o1 := (y1 32 (by omega)).trans o0
  refine xs_f 12 r_133_11 rfl ?_
  refine xs_f 13 r_133_12 rfl ?_
  refine xs_putC 16 r_133_13 rfl o1 (by rfl) (by rfl) (fun f2 x2 y2 => ?_)
  have b2 := (y2 33 (by omega)).trans ((y1 33 (by omega)).trans b1)
  refine xs_f 17 r_133_16 rfl ?_
  refine xs_get 20 r_133_17 rfl rfl x2 (by rfl) ?_
  refine xs_get 23 r_133_20 rfl rfl b2 (by rfl) ?_
  refine xs_ret r_133_23 rfl ?_
  exact kS f2 ⟨x2, (g1.fr (fun c c1 c2 => y1 c (by omega))).fr (fun c c1 c2 => y2 c (by omega)), fun _ => x1.fr (fun c c1 c2 => y2 c (by omega)), G, x1.fr (fun c c1 c2 => y2 c (by omega))⟩ ((hS.fr (fun c c1 c2 => y1 c (by omega))).fr (fun c c1 c2 => y2 c (by omega))) ((y1.wd (by omega) (by omega)).tr (y2.wd (by omega) (by omega)))

theorem e_134 {S : XSc} {d : Nat} {h : XH} {Q : XO → XH → Prop} {H Sv : Nat → Int32} {pos ch : Nat} {sv : Bool} {K : Nat} {ea fa : Int32} {G : Nat → Int32} (hX : CoX h.1 H Sv pos ch sv K ea fa) (hS : Sim h.1 33 G K) (k0 : sv = false → Q (.inr 0) (xbump h)) (kS : sv = true → ∀ f, CoX f H Sv pos 0 sv K ea fa → Sim f 33 Sv K → Fr h.1 f 32 794 → Q (.inl (some (.int (Sv 1)))) (f, h.2)) : xP S (d + 5) 134 0 [(0, .ref 32)] [] h Q := by
  obtain ⟨o0, g1, g2, G8, g3⟩ := id hX
  obtain ⟨fs9, o9⟩ := hS.o
  obtain ⟨fs8, o8⟩ := g3.o
  have gh := g1.1
  have h8 := g1.2.2.1.2
  refine xs_f 1 r_134_0 rfl ?_
  refine xs_get 4 r_134_1 rfl rfl (by first | assumption | exact xup_s | exact o0 | exact gh | exact o9 | (refine (xup_n (by omega)).trans ?_; first | assumption | exact xup_s | exact o0 | exact gh | exact o9) | (refine (xup_n (by omega)).trans ((xup_n (by omega)).trans ?_); first | assumption | exact xup_s | exact o0 | exact gh | exact o9) | (refine (xup_n (by omega)).trans ((xup_n (by omega)).trans ((xup_n (by omega)).trans ?_)); first | assumption | exact xup_s | exact o0 | exact gh | exact o9)) (by rfl) ?_
  refine xs_if 7 18 r_134_4 rfl (fun hb => ?_) (fun hb => ?_)
  · have hv : sv = false := by
      cases sv
      · rfl
      · exact absurd hb (by decide)
    refine xs_thr r_134_7 rfl ?_
    exact k0 hv
  · have hv : sv = true := by
      cases sv
      · exact absurd rfl hb
      · rfl
    refine xs_f 19 r_134_18 rfl ?_
    refine xs_get 22 r_134_19 rfl rfl (by first | assumption | exact xup_s | exact o0 | exact gh | exact o9 | (refine (xup_n (by omega)).trans ?_; first | assumption | exact xup_s | exact o0 | exact gh | exact o9) | (refine (xup_n (by omega)).trans ((xup_n (by omega)).trans ?_); first | assumption | exact xup_s | exact o0 | exact gh | exact o9) | (refine (xup_n (by omega)).trans ((xup_n (by omega)).trans ((xup_n (by omega)).trans ?_)); first | assumption | exact xup_s | exact o0 | exact gh | exact o9)) (by rfl) ?_
    refine xs_f 23 r_134_22 rfl ?_
    refine xs_get 26 r_134_23 rfl rfl (by first | assumption | exact xup_s | exact o0 | exact gh | exact o9 | (refine (xup_n (by omega)).trans ?_; first | assumption | exact xup_s | exact o0 | exact gh | exact o9) | (refine (xup_n (by omega)).trans ((xup_n (by omega)).trans ?_); first | assumption | exact xup_s | exact o0 | exact gh | exact o9) | (refine (xup_n (by omega)).trans ((xup_n (by omega)).trans ((xup_n (by omega)).trans ?_)); first | assumption | exact xup_s | exact o0 | exact gh | exact o9)) (by rfl) ?_
    refine xs_call (lv2 := [(0, _), (1, _)]) r_134_26 rfl rfl (by decide) (xcan_0 rfl rfl (by first | assumption | exact xup_s | exact o0 | exact gh | exact o9 | (refine (xup_n (by omega)).trans ?_; first | assumption | exact xup_s | exact o0 | exact gh | exact o9) | (refine (xup_n (by omega)).trans ((xup_n (by omega)).trans ?_); first | assumption | exact xup_s | exact o0 | exact gh | exact o9) | (refine (xup_n (by omega)).trans ((xup_n (by omega)).trans ((xup_n (by omega)).trans ?_)); first | assumption | exact xup_s | exact o0 | exact gh | exact o9)) (by rfl)) rfl (c_11s hS (g2 hv) (by omega) (by omega) (by omega) (fun f1 x1 y1 => ?_))
    refine xK_0 rfl ?_
    have o1 := (y1 32 (by omega)).trans o0
    have g1f := g1.fr (g := f1) (fun c c1 c2 => y1 c (by omega))
    have gh1 := g1f.1
    refine xs_f 30 r_134_29 rfl ?_
    refine xs_get 33 r_134_30 rfl rfl o1 (by rfl) ?_
    refine xs_call (lv2 := [(0, _)]) r_134_33 rfl rfl (by decide) (xcan_0 rfl rfl gh1 (by rfl)) rfl (e_70 (h := (f1, h.2)) g1f (by omega) (fun f2 x2 y2 => ?_))
    refine xK_0 rfl ?_
    have o2 := (y2 32 (by omega)).trans o1
    have s2 := x1.fr (g := f2) (fun c c1 c2 => y2 c (by omega))
    obtain ⟨mn9, np9, no9, nn9, N9, sc9, ho9, TS9, TH9, tr9, pl9, q9, s9, R9, hB9, hr9, hl9⟩ := id s2
    have b9 := hB9.1
    have e9 : Sv 1 = nI no9 := hr9.1.2.1.1
    refine xs_f 37 r_134_36 rfl ?_
    refine xs_get 40 r_134_37 rfl rfl o2 (by rfl) ?_
    refine xs_get 43 r_134_40 rfl rfl b9 (by rfl) ?_
    refine xs_ret r_134_43 rfl ?_
    rw [e9] at kS
    exact kS hv f2 ⟨o2, x2 H, fun z => ((g2 z).fr (fun c c1 c2 => y1 c (by omega))).fr (fun c c1 c2 => y2 c (by omega)), G8, (g3.fr (fun c c1 c2 => y1 c (by omega))).fr (fun c c1 c2 => y2 c (by omega))⟩ s2 ((y1.wd (by omega) (by omega)).tr (y2.wd (by omega) (by omega)))

