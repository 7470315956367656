/-! the class's calls that change the board -/
def CoX (f : Nat → Option XE) (H Sv : Nat → Int32) (pos ch : Nat) (sv : Bool) (K : Nat) (ea fa : Int32) : Prop := f 32 = some (.inr (8, [.ref 33, .ref 102, .ref 171, .ref 794, .ref 804, .ref 807, .int (bI sv), .int ea, .int fa])) ∧ HiP f 171 pos ch H K ∧ (sv = true → Sim f 102 Sv K) ∧ ∃ G, Sim f 102 G K
theorem CoX.fr {f g : Nat → Option XE} {H Sv : Nat → Int32} {pos ch : Nat} {sv : Bool} {K : Nat} {ea fa : Int32} (h : CoX f H Sv pos ch sv K ea fa) (e : ∀ c, c = 32 ∨ (102 ≤ c ∧ c < 794) → g c = f c) : CoX g H Sv pos ch sv K ea fa := by
  obtain ⟨h1, h2, h3, G, h4⟩ := h
  exact ⟨(e _ (by omega)).trans h1, h2.fr (fun c c1 c2 => e c (by omega)), fun z => (h3 z).fr (fun c c1 c2 => e c (by omega)), G, h4.fr (fun c c1 c2 => e c (by omega))⟩
theorem CoX.nx {f g k : Nat → Option XE} {H Sv H2 : Nat → Int32} {pos ch pos2 ch2 : Nat} {sv : Bool} {K : Nat} {ea fa : Int32} (h : CoX f H Sv pos ch sv K ea fa) (hh : HiP g 171 pos2 ch2 H2 K) (y1 : Fr f g 171 (171 + 623)) (y2 : Fr g k 33 (33 + 69)) : CoX k H2 Sv pos2 ch2 sv (K + 1) ea fa := by
  obtain ⟨h1, h2, h3, G, h4⟩ := h
  have e : ∀ c, c < 33 ∨ (102 ≤ c ∧ c < 171) → k c = f c := fun c hc => (y2 c (by omega)).trans (y1 c (by omega))
  exact ⟨(e _ (by omega)).trans h1, (hh.fr (fun c c1 c2 => y2 c (by omega))).up (Nat.le_succ _), fun z => ((h3 z).fr (fun c c1 c2 => e c (by omega))).up (Nat.le_succ _), G, (h4.fr (fun c c1 c2 => e c (by omega))).up (Nat.le_succ _)⟩
theorem joinF_le (np : Nat) : joinF np ≤ 5 := by unfold joinF; split <;> omega
theorem askF_le (no : Nat) (w : Int32) : askF no w ≤ 5 := by unfold askF; (repeat' split) <;> omega
theorem postF_le (no : Nat) : postF no ≤ 5 := by unfold postF; split <;> omega
theorem settF_le (no : Nat) (t : Int32) : settF no t ≤ 5 := by unfold settF; split; exact postF_le no; omega
theorem leavF_le (np : Nat) (pl : Nat → XPl) (p : Int32) : leavF np pl p ≤ 5 := by
  unfold leavF
  split
  · cases (pl p.toNatClampNeg).2.2.1
    · exact Nat.zero_le _
    · exact Nat.le_refl _
  · omega
theorem betF_l5 (np no : Nat) (pl : Nat → XPl) (q : Nat → XQu) (p n lo hi c s : Int32) : betF np no pl q p n lo hi c s ≤ 5 := by
  unfold betF
  split
  · split
    · split
      · cases (pl p.toNatClampNeg).2.2.1
        · rw [cond_false]; split <;> omega
        · rw [cond_true]; omega
      · omega
    · omega
  · omega
theorem e_84 {S : XSc} {d : Nat} {h : XH} {Q : XO → XH → Prop} {H Sv : Nat → Int32} {pos ch : Nat} {sv : Bool} {K : Nat} {ea fa : Int32} {G : Nat → Int32} {mn : Nat → Nat} {np no : Nat} {nn : Int32} {N sc : Nat} {ho : Int32} {TS TH tr : Nat → Int32} {pl : Nat → XPl} {q : Nat → XQu} {s : Nat → Nat} {R : Nat → Nat → Nat} (hX : CoX h.1 H Sv pos ch sv K ea fa) (hB : BdP h.1 33 np no nn sc ho TS TH tr pl q s R) (hr : RG G mn np no nn sc ho tr pl q) (hk : OKc np no nn N sc ho TS TH pl q) (hN : N ≤ K) (hs : sc ≤ K) (hK : K ≤ 1000) (kF : joinF np ≠ 0 → Q (.inr (fE (joinF np))) (xbump h)) (kS : joinF np = 0 → ∀ f pos, CoX f (psh ch H G) Sv pos (min (ch + 1) 8) sv (K + 1) ea fa → Sim f 33 (xw (xw G (10 + np) 100) 0 (nI (np + 1))) (K + 1) → Fr h.1 f 32 794 → Q (.inl (some (.int (nI np)))) (f, h.2)) : xP S (d + 6) 84 0 [(0, .ref 32)] [] h Q := by
  obtain ⟨o0, g1, g2, g3⟩ := id hX
  obtain ⟨⟨⟨-, n5⟩, ⟨-, n6⟩, gm⟩, -, -, r5, r6, -⟩ := id hr
  have b1 := hB.1
  have gh := g1.1
  have hS : Sim h.1 33 G K := ⟨_, _, _, _, _, _, _, _, _, _, _, _, _, _, hB, hr, hk, hN, hs⟩
  refine xs_f 1 r_84_0 rfl ?_
  refine xs_get 4 r_84_1 rfl rfl (by first | assumption | exact xup_s | exact o0 | exact b1 | exact gh | (refine (xup_n (by omega)).trans ?_; first | assumption | exact xup_s | exact o0 | exact b1 | exact gh) | (refine (xup_n (by omega)).trans ((xup_n (by omega)).trans ?_); first | assumption | exact xup_s | exact o0 | exact b1 | exact gh) | (refine (xup_n (by omega)).trans ((xup_n (by omega)).trans ((xup_n (by omega)).trans ?_)); first | assumption | exact xup_s | exact o0 | exact b1 | exact gh)) (by rfl) ?_
  refine xs_call (lv2 := [(0, _)]) r_84_4 rfl rfl (by decide) (xcan_0 rfl rfl (by first | assumption | exact xup_s | exact o0 | exact b1 | exact gh | (refine (xup_n (by omega)).trans ?_; first | assumption | exact xup_s | exact o0 | exact b1 | exact gh) | (refine (xup_n (by omega)).trans ((xup_n (by omega)).trans ?_); first | assumption | exact xup_s | exact o0 | exact b1 | exact gh) | (refine (xup_n (by omega)).trans ((xup_n (by omega)).trans ((xup_n (by omega)).trans ?_)); first | assumption | exact xup_s | exact o0 | exact b1 | exact gh)) (by rfl)) rfl (c_14 hB (by omega) ?_)
  refine xK_v rfl ?_
  refine xs_call (lv2 := [(0, _)]) r_84_7 rfl rfl (by decide) (xcan_1 rfl) rfl (e_135 (joinF_le np) (fun h0 => ?_) (fun h0 => ?_))
  · have hn : np < 5 := by
      unfold joinF at h0
      split at h0 <;> omega
    refine xK_0 rfl ?_
    refine xs_f 11 r_84_10 rfl ?_
    refine xs_get 14 r_84_11 rfl rfl (by first | assumption | exact xup_s | exact o0 | exact b1 | exact gh | (refine (xup_n (by omega)).trans ?_; first | assumption | exact xup_s | exact o0 | exact b1 | exact gh) | (refine (xup_n (by omega)).trans ((xup_n (by omega)).trans ?_); first | assumption | exact xup_s | exact o0 | exact b1 | exact gh) | (refine (xup_n (by omega)).trans ((xup_n (by omega)).trans ((xup_n (by omega)).trans ?_)); first | assumption | exact xup_s | exact o0 | exact b1 | exact gh)) (by rfl) ?_
    refine xs_f 15 r_84_14 rfl ?_
    refine xs_get 18 r_84_15 rfl rfl (by first | assumption | exact xup_s | exact o0 | exact b1 | exact gh | (refine (xup_n (by omega)).trans ?_; first | assumption | exact xup_s | exact o0 | exact b1 | exact gh) | (refine (xup_n (by omega)).trans ((xup_n (by omega)).trans ?_); first | assumption | exact xup_s | exact o0 | exact b1 | exact gh) | (refine (xup_n (by omega)).trans ((xup_n (by omega)).trans ((xup_n (by omega)).trans ?_)); first | assumption | exact xup_s | exact o0 | exact b1 | exact gh)) (by rfl) ?_
    refine xs_call (lv2 := [(0, _), (1, _)]) r_84_18 rfl rfl (by decide) (xcan_0 rfl rfl (by first | assumption | exact xup_s | exact o0 | exact b1 | exact gh | (refine (xup_n (by omega)).trans ?_; first | assumption | exact xup_s | exact o0 | exact b1 | exact gh) | (refine (xup_n (by omega)).trans ((xup_n (by omega)).trans ?_); first | assumption | exact xup_s | exact o0 | exact b1 | exact gh) | (refine (xup_n (by omega)).trans ((xup_n (by omega)).trans ((xup_n (by omega)).trans ?_)); first | assumption | exact xup_s | exact o0 | exact b1 | exact gh)) (by rfl)) rfl (e_67 g1 (by omega) hS (by omega) (by omega) (fun f1 x1 y1 => ?_))
    refine xK_0 rfl ?_
    have hB1 := hB.fr (g := f1) (fun c c1 c2 => y1 c (by omega))
    have b2 := hB1.1
    have o2 := (y1 32 (by omega)).trans o0
    refine xs_f 22 r_84_21 rfl ?_
    refine xs_get 25 r_84_22 rfl rfl (by first | assumption | exact xup_s | exact o0 | exact b1 | exact gh | (refine (xup_n (by omega)).trans ?_; first | assumption | exact xup_s | exact o0 | exact b1 | exact gh) | (refine (xup_n (by omega)).trans ((xup_n (by omega)).trans ?_); first | assumption | exact xup_s | exact o0 | exact b1 | exact gh) | (refine (xup_n (by omega)).trans ((xup_n (by omega)).trans ((xup_n (by omega)).trans ?_)); first | assumption | exact xup_s | exact o0 | exact b1 | exact gh)) (by rfl) ?_
    refine xs_call (lv2 := [(0, _)]) r_84_25 rfl rfl (by decide) (xcan_0 rfl rfl (by first | assumption | exact xup_s | exact o0 | exact b1 | exact gh | (refine (xup_n (by omega)).trans ?_; first | assumption | exact xup_s | exact o0 | exact b1 | exact gh) | (refine (xup_n (by omega)).trans ((xup_n (by omega)).trans ?_); first | assumption | exact xup_s | exact o0 | exact b1 | exact gh) | (refine (xup_n (by omega)).trans ((xup_n (by omega)).trans ((xup_n (by omega)).trans ?_)); first | assumption | exact xup_s | exact o0 | exact b1 | exact gh)) (by rfl)) rfl (c_15 (h := (f1, h.2)) hB1 (by omega) hn (fun f2 x2 y2 => ?_))
    refine xK_v rfl ?_
    refine xs_ret r_84_28 rfl ?_
    exact kS h0 f2 _ (hX.nx x1 y1 y2) ⟨_, _, _, _, _, _, _, _, _, _, _, _, _, _, x2, hr.join hn, hk.join, by omega, by omega⟩ ((y1.wd (by omega) (by omega)).tr (y2.wd (by omega) (by omega)))
  · refine xK_e rfl rfl ?_
    exact kF h0

theorem e_85 {S : XSc} {d : Nat} {h : XH} {Q : XO → XH → Prop} {H Sv : Nat → Int32} {pos ch : Nat} {sv : Bool} {K : Nat} {ea fa : Int32} {G : Nat → Int32} {mn : Nat → Nat} {np no : Nat} {nn : Int32} {N sc : Nat} {ho : Int32} {TS TH tr : Nat → Int32} {pl : Nat → XPl} {q : Nat → XQu} {s : Nat → Nat} {R : Nat → Nat → Nat} (hX : CoX h.1 H Sv pos ch sv K ea fa) (hB : BdP h.1 33 np no nn sc ho TS TH tr pl q s R) (hr : RG G mn np no nn sc ho tr pl q) (hk : OKc np no nn N sc ho TS TH pl q) (hN : N ≤ K) (hs : sc ≤ K) (hK : K ≤ 1000) {w : Int32} (kF : askF no w ≠ 0 → Q (.inr (fE (askF no w))) (xbump h)) (kS : askF no w = 0 → ∀ f pos, CoX f (psh ch H G) Sv pos (min (ch + 1) 8) sv (K + 1) ea fa → Sim f 33 (gAsk G no w) (K + 1) → Fr h.1 f 32 794 → Q (.inl (some (.int nn))) (f, h.2)) : xP S (d + 6) 85 0 [(0, .ref 32), (1, .int w)] [] h Q := by
  obtain ⟨o0, g1, g2, g3⟩ := id hX
  obtain ⟨⟨⟨-, n5⟩, ⟨-, n6⟩, gm⟩, -, -, r5, r6, -⟩ := id hr
  have b1 := hB.1
  have gh := g1.1
  have hS : Sim h.1 33 G K := ⟨_, _, _, _, _, _, _, _, _, _, _, _, _, _, hB, hr, hk, hN, hs⟩
  refine xs_f 1 r_85_0 rfl ?_
  refine xs_get 4 r_85_1 rfl rfl (by first | assumption | exact xup_s | exact o0 | exact b1 | exact gh | (refine (xup_n (by omega)).trans ?_; first | assumption | exact xup_s | exact o0 | exact b1 | exact gh) | (refine (xup_n (by omega)).trans ((xup_n (by omega)).trans ?_); first | assumption | exact xup_s | exact o0 | exact b1 | exact gh) | (refine (xup_n (by omega)).trans ((xup_n (by omega)).trans ((xup_n (by omega)).trans ?_)); first | assumption | exact xup_s | exact o0 | exact b1 | exact gh)) (by rfl) ?_
  refine xs_f 5 r_85_4 rfl ?_
  refine xs_call (lv2 := [(0, _), (1, _)]) r_85_5 rfl rfl (by decide) (xcan_0 rfl rfl (by first | assumption | exact xup_s | exact o0 | exact b1 | exact gh | (refine (xup_n (by omega)).trans ?_; first | assumption | exact xup_s | exact o0 | exact b1 | exact gh) | (refine (xup_n (by omega)).trans ((xup_n (by omega)).trans ?_); first | assumption | exact xup_s | exact o0 | exact b1 | exact gh) | (refine (xup_n (by omega)).trans ((xup_n (by omega)).trans ((xup_n (by omega)).trans ?_)); first | assumption | exact xup_s | exact o0 | exact b1 | exact gh)) (by rfl)) rfl (c_16 hB (by omega) ?_)
  refine xK_v rfl ?_
  refine xs_call (lv2 := [(0, _)]) r_85_8 rfl rfl (by decide) (xcan_1 rfl) rfl (e_135 (askF_le no w) (fun h0 => ?_) (fun h0 => ?_))
  · have hw : 1 ≤ w ∧ w ≤ 3 := by
      unfold askF at h0
      split at h0
      · assumption
      · omega
    have hn : no < 6 := by
      unfold askF at h0
      rw [if_pos hw] at h0
      split at h0 <;> omega
    refine xK_0 rfl ?_
    refine xs_f 12 r_85_11 rfl ?_
    refine xs_get 15 r_85_12 rfl rfl (by first | assumption | exact xup_s | exact o0 | exact b1 | exact gh | (refine (xup_n (by omega)).trans ?_; first | assumption | exact xup_s | exact o0 | exact b1 | exact gh) | (refine (xup_n (by omega)).trans ((xup_n (by omega)).trans ?_); first | assumption | exact xup_s | exact o0 | exact b1 | exact gh) | (refine (xup_n (by omega)).trans ((xup_n (by omega)).trans ((xup_n (by omega)).trans ?_)); first | assumption | exact xup_s | exact o0 | exact b1 | exact gh)) (by rfl) ?_
    refine xs_f 16 r_85_15 rfl ?_
    refine xs_get 19 r_85_16 rfl rfl (by first | assumption | exact xup_s | exact o0 | exact b1 | exact gh | (refine (xup_n (by omega)).trans ?_; first | assumption | exact xup_s | exact o0 | exact b1 | exact gh) | (refine (xup_n (by omega)).trans ((xup_n (by omega)).trans ?_); first | assumption | exact xup_s | exact o0 | exact b1 | exact gh) | (refine (xup_n (by omega)).trans ((xup_n (by omega)).trans ((xup_n (by omega)).trans ?_)); first | assumption | exact xup_s | exact o0 | exact b1 | exact gh)) (by rfl) ?_
    refine xs_call (lv2 := [(0, _), (1, _)]) r_85_19 rfl rfl (by decide) (xcan_0 rfl rfl (by first | assumption | exact xup_s | exact o0 | exact b1 | exact gh | (refine (xup_n (by omega)).trans ?_; first | assumption | exact xup_s | exact o0 | exact b1 | exact gh) | (refine (xup_n (by omega)).trans ((xup_n (by omega)).trans ?_); first | assumption | exact xup_s | exact o0 | exact b1 | exact gh) | (refine (xup_n (by omega)).trans ((xup_n (by omega)).trans ((xup_n (by omega)).trans ?_)); first | assumption | exact xup_s | exact o0 | exact b1 | exact gh)) (by rfl)) rfl (e_67 g1 (by omega) hS (by omega) (by omega) (fun f1 x1 y1 => ?_))
    refine xK_0 rfl ?_
    have hB1 := hB.fr (g := f1) (fun c c1 c2 => y1 c (by omega))
    have b2 := hB1.1
    have o2 := (y1 32 (by omega)).trans o0
    refine xs_f 23 r_85_22 rfl ?_
    refine xs_get 26 r_85_23 rfl rfl (by first | assumption | exact xup_s | exact o0 | exact b1 | exact gh | (refine (xup_n (by omega)).trans ?_; first | assumption | exact xup_s | exact o0 | exact b1 | exact gh) | (refine (xup_n (by omega)).trans ((xup_n (by omega)).trans ?_); first | assumption | exact xup_s | exact o0 | exact b1 | exact gh) | (refine (xup_n (by omega)).trans ((xup_n (by omega)).trans ((xup_n (by omega)).trans ?_)); first | assumption | exact xup_s | exact o0 | exact b1 | exact gh)) (by rfl) ?_
    refine xs_f 27 r_85_26 rfl ?_
    refine xs_call (lv2 := [(0, _), (1, _)]) r_85_27 rfl rfl (by decide) (xcan_0 rfl rfl (by first | assumption | exact xup_s | exact o0 | exact b1 | exact gh | (refine (xup_n (by omega)).trans ?_; first | assumption | exact xup_s | exact o0 | exact b1 | exact gh) | (refine (xup_n (by omega)).trans ((xup_n (by omega)).trans ?_); first | assumption | exact xup_s | exact o0 | exact b1 | exact gh) | (refine (xup_n (by omega)).trans ((xup_n (by omega)).trans ((xup_n (by omega)).trans ?_)); first | assumption | exact xup_s | exact o0 | exact b1 | exact gh)) (by rfl)) rfl (c_17 (h := (f1, h.2)) hB1 (by omega) hn (fun f2 R2 x2 y2 => ?_))
    refine xK_v rfl ?_
    refine xs_ret r_85_30 rfl ?_
    exact kS h0 f2 _ (hX.nx x1 y1 y2) ⟨_, _, _, _, _, _, _, _, _, _, _, _, _, _, x2, hr.ask hn w, hk.ask hw, by omega, by omega⟩ ((y1.wd (by omega) (by omega)).tr (y2.wd (by omega) (by omega)))
  · refine xK_e rfl rfl ?_
    exact kF h0

theorem e_88 {S : XSc} {d : Nat} {h : XH} {Q : XO → XH → Prop} {H Sv : Nat → Int32} {pos ch : Nat} {sv : Bool} {K : Nat} {ea fa : Int32} {G : Nat → Int32} {mn : Nat → Nat} {np no : Nat} {nn : Int32} {N sc : Nat} {ho : Int32} {TS TH tr : Nat → Int32} {pl : Nat → XPl} {q : Nat → XQu} {s : Nat → Nat} {R : Nat → Nat → Nat} (hX : CoX h.1 H Sv pos ch sv K ea fa) (hB : BdP h.1 33 np no nn sc ho TS TH tr pl q s R) (hr : RG G mn np no nn sc ho tr pl q) (hk : OKc np no nn N sc ho TS TH pl q) (hN : N ≤ K) (hs : sc ≤ K) (hK : K ≤ 1000) (kF : postF no ≠ 0 → Q (.inr (fE (postF no))) (xbump h)) (kS : postF no = 0 → ∀ f pos, CoX f (psh ch H G) Sv pos (min (ch + 1) 8) sv (K + 1) ea fa → Sim f 33 (gPst G no) (K + 1) → Fr h.1 f 32 794 → Q (.inl (some (.int (rot q 0 (no - 1) 0).1))) (f, h.2)) : xP S (d + 6) 88 0 [(0, .ref 32)] [] h Q := by
  obtain ⟨o0, g1, g2, g3⟩ := id hX
  obtain ⟨⟨⟨-, n5⟩, ⟨-, n6⟩, gm⟩, -, -, r5, r6, -⟩ := id hr
  have b1 := hB.1
  have gh := g1.1
  have hS : Sim h.1 33 G K := ⟨_, _, _, _, _, _, _, _, _, _, _, _, _, _, hB, hr, hk, hN, hs⟩
  refine xs_f 1 r_88_0 rfl ?_
  refine xs_get 4 r_88_1 rfl rfl (by first | assumption | exact xup_s | exact o0 | exact b1 | exact gh | (refine (xup_n (by omega)).trans ?_; first | assumption | exact xup_s | exact o0 | exact b1 | exact gh) | (refine (xup_n (by omega)).trans ((xup_n (by omega)).trans ?_); first | assumption | exact xup_s | exact o0 | exact b1 | exact gh) | (refine (xup_n (by omega)).trans ((xup_n (by omega)).trans ((xup_n (by omega)).trans ?_)); first | assumption | exact xup_s | exact o0 | exact b1 | exact gh)) (by rfl) ?_
  refine xs_call (lv2 := [(0, _)]) r_88_4 rfl rfl (by decide) (xcan_0 rfl rfl (by first | assumption | exact xup_s | exact o0 | exact b1 | exact gh | (refine (xup_n (by omega)).trans ?_; first | assumption | exact xup_s | exact o0 | exact b1 | exact gh) | (refine (xup_n (by omega)).trans ((xup_n (by omega)).trans ?_); first | assumption | exact xup_s | exact o0 | exact b1 | exact gh) | (refine (xup_n (by omega)).trans ((xup_n (by omega)).trans ((xup_n (by omega)).trans ?_)); first | assumption | exact xup_s | exact o0 | exact b1 | exact gh)) (by rfl)) rfl (c_25 hB (by omega) ?_)
  refine xK_v rfl ?_
  refine xs_call (lv2 := [(0, _)]) r_88_7 rfl rfl (by decide) (xcan_1 rfl) rfl (e_135 (postF_le no) (fun h0 => ?_) (fun h0 => ?_))
  · have hn : 0 < no := by
      unfold postF at h0
      split at h0 <;> omega
    refine xK_0 rfl ?_
    refine xs_f 11 r_88_10 rfl ?_
    refine xs_get 14 r_88_11 rfl rfl (by first | assumption | exact xup_s | exact o0 | exact b1 | exact gh | (refine (xup_n (by omega)).trans ?_; first | assumption | exact xup_s | exact o0 | exact b1 | exact gh) | (refine (xup_n (by omega)).trans ((xup_n (by omega)).trans ?_); first | assumption | exact xup_s | exact o0 | exact b1 | exact gh) | (refine (xup_n (by omega)).trans ((xup_n (by omega)).trans ((xup_n (by omega)).trans ?_)); first | assumption | exact xup_s | exact o0 | exact b1 | exact gh)) (by rfl) ?_
    refine xs_f 15 r_88_14 rfl ?_
    refine xs_get 18 r_88_15 rfl rfl (by first | assumption | exact xup_s | exact o0 | exact b1 | exact gh | (refine (xup_n (by omega)).trans ?_; first | assumption | exact xup_s | exact o0 | exact b1 | exact gh) | (refine (xup_n (by omega)).trans ((xup_n (by omega)).trans ?_); first | assumption | exact xup_s | exact o0 | exact b1 | exact gh) | (refine (xup_n (by omega)).trans ((xup_n (by omega)).trans ((xup_n (by omega)).trans ?_)); first | assumption | exact xup_s | exact o0 | exact b1 | exact gh)) (by rfl) ?_
    refine xs_call (lv2 := [(0, _), (1, _)]) r_88_18 rfl rfl (by decide) (xcan_0 rfl rfl (by first | assumption | exact xup_s | exact o0 | exact b1 | exact gh | (refine (xup_n (by omega)).trans ?_; first | assumption | exact xup_s | exact o0 | exact b1 | exact gh) | (refine (xup_n (by omega)).trans ((xup_n (by omega)).trans ?_); first | assumption | exact xup_s | exact o0 | exact b1 | exact gh) | (refine (xup_n (by omega)).trans ((xup_n (by omega)).trans ((xup_n (by omega)).trans ?_)); first | assumption | exact xup_s | exact o0 | exact b1 | exact gh)) (by rfl)) rfl (e_67 g1 (by omega) hS (by omega) (by omega) (fun f1 x1 y1 => ?_))
    refine xK_0 rfl ?_
    have hB1 := hB.fr (g := f1) (fun c c1 c2 => y1 c (by omega))
    have b2 := hB1.1
    have o2 := (y1 32 (by omega)).trans o0
    refine xs_f 22 r_88_21 rfl ?_
    refine xs_get 25 r_88_22 rfl rfl (by first | assumption | exact xup_s | exact o0 | exact b1 | exact gh | (refine (xup_n (by omega)).trans ?_; first | assumption | exact xup_s | exact o0 | exact b1 | exact gh) | (refine (xup_n (by omega)).trans ((xup_n (by omega)).trans ?_); first | assumption | exact xup_s | exact o0 | exact b1 | exact gh) | (refine (xup_n (by omega)).trans ((xup_n (by omega)).trans ((xup_n (by omega)).trans ?_)); first | assumption | exact xup_s | exact o0 | exact b1 | exact gh)) (by rfl) ?_
    refine xs_call (lv2 := [(0, _)]) r_88_25 rfl rfl (by decide) (xcan_0 rfl rfl (by first | assumption | exact xup_s | exact o0 | exact b1 | exact gh | (refine (xup_n (by omega)).trans ?_; first | assumption | exact xup_s | exact o0 | exact b1 | exact gh) | (refine (xup_n (by omega)).trans ((xup_n (by omega)).trans ?_); first | assumption | exact xup_s | exact o0 | exact b1 | exact gh) | (refine (xup_n (by omega)).trans ((xup_n (by omega)).trans ((xup_n (by omega)).trans ?_)); first | assumption | exact xup_s | exact o0 | exact b1 | exact gh)) (by rfl)) rfl (c_26 (h := (f1, h.2)) hB1 (by omega) hn (fun f2 x2 y2 => ?_))
    refine xK_v rfl ?_
    refine xs_ret r_88_28 rfl ?_
    exact kS h0 f2 _ (hX.nx x1 y1 y2) ⟨_, _, _, _, _, _, _, _, _, _, _, _, _, _, x2, hr.post hn, hk.post hn, by omega, by omega⟩ ((y1.wd (by omega) (by omega)).tr (y2.wd (by omega) (by omega)))
  · refine xK_e rfl rfl ?_
    exact kF h0

theorem e_87 {S : XSc} {d : Nat} {h : XH} {Q : XO → XH → Prop} {H Sv : Nat → Int32} {pos ch : Nat} {sv : Bool} {K : Nat} {ea fa : Int32} {G : Nat → Int32} {mn : Nat → Nat} {np no : Nat} {nn : Int32} {N sc : Nat} {ho : Int32} {TS TH tr : Nat → Int32} {pl : Nat → XPl} {q : Nat → XQu} {s : Nat → Nat} {R : Nat → Nat → Nat} (hX : CoX h.1 H Sv pos ch sv K ea fa) (hB : BdP h.1 33 np no nn sc ho TS TH tr pl q s R) (hr : RG G mn np no nn sc ho tr pl q) (hk : OKc np no nn N sc ho TS TH pl q) (hN : N ≤ K) (hs : sc ≤ K) (hK : K ≤ 1000) {t : Int32} (kF : settF no t ≠ 0 → Q (.inr (fE (settF no t))) (xbump h)) (kS : settF no t = 0 → ∀ f pos, CoX f (psh ch H G) Sv pos (min (ch + 1) 8) sv (K + 1) ea fa → Sim f 33 (gSet G no (mn 0) sc t) (K + 1) → Fr h.1 f 32 794 → Q (.inl (some (.int (nI (hitN (q 0).2.2.2 t (q 0).2.2.1))))) (f, h.2)) : xP S (d + 6) 87 0 [(0, .ref 32), (1, .int t)] [] h Q := by
  obtain ⟨o0, g1, g2, g3⟩ := id hX
  obtain ⟨⟨⟨-, n5⟩, ⟨-, n6⟩, gm⟩, -, -, r5, r6, -⟩ := id hr
  have b1 := hB.1
  have gh := g1.1
  have hS : Sim h.1 33 G K := ⟨_, _, _, _, _, _, _, _, _, _, _, _, _, _, hB, hr, hk, hN, hs⟩
  refine xs_f 1 r_87_0 rfl ?_
  refine xs_get 4 r_87_1 rfl rfl (by first | assumption | exact xup_s | exact o0 | exact b1 | exact gh | (refine (xup_n (by omega)).trans ?_; first | assumption | exact xup_s | exact o0 | exact b1 | exact gh) | (refine (xup_n (by omega)).trans ((xup_n (by omega)).trans ?_); first | assumption | exact xup_s | exact o0 | exact b1 | exact gh) | (refine (xup_n (by omega)).trans ((xup_n (by omega)).trans ((xup_n (by omega)).trans ?_)); first | assumption | exact xup_s | exact o0 | exact b1 | exact gh)) (by rfl) ?_
  refine xs_f 5 r_87_4 rfl ?_
  refine xs_call (lv2 := [(0, _), (1, _)]) r_87_5 rfl rfl (by decide) (xcan_0 rfl rfl (by first | assumption | exact xup_s | exact o0 | exact b1 | exact gh | (refine (xup_n (by omega)).trans ?_; first | assumption | exact xup_s | exact o0 | exact b1 | exact gh) | (refine (xup_n (by omega)).trans ((xup_n (by omega)).trans ?_); first | assumption | exact xup_s | exact o0 | exact b1 | exact gh) | (refine (xup_n (by omega)).trans ((xup_n (by omega)).trans ((xup_n (by omega)).trans ?_)); first | assumption | exact xup_s | exact o0 | exact b1 | exact gh)) (by rfl)) rfl (c_20 hB (by omega) ?_)
  refine xK_v rfl ?_
  refine xs_call (lv2 := [(0, _)]) r_87_8 rfl rfl (by decide) (xcan_1 rfl) rfl (e_135 (settF_le no t) (fun h0 => ?_) (fun h0 => ?_))
  · have ht : 0 ≤ t ∧ t ≤ 999 := by
      unfold settF at h0
      split at h0
      · assumption
      · omega
    have hn : 0 < no := by
      unfold settF at h0
      rw [if_pos ht] at h0
      unfold postF at h0
      split at h0 <;> omega
    obtain ⟨k', hk', et⟩ := nat_of (b := 999) ht.1 ht.2 (by omega)
    refine xK_0 rfl ?_
    refine xs_f 12 r_87_11 rfl ?_
    refine xs_get 15 r_87_12 rfl rfl (by first | assumption | exact xup_s | exact o0 | exact b1 | exact gh | (refine (xup_n (by omega)).trans ?_; first | assumption | exact xup_s | exact o0 | exact b1 | exact gh) | (refine (xup_n (by omega)).trans ((xup_n (by omega)).trans ?_); first | assumption | exact xup_s | exact o0 | exact b1 | exact gh) | (refine (xup_n (by omega)).trans ((xup_n (by omega)).trans ((xup_n (by omega)).trans ?_)); first | assumption | exact xup_s | exact o0 | exact b1 | exact gh)) (by rfl) ?_
    refine xs_f 16 r_87_15 rfl ?_
    refine xs_get 19 r_87_16 rfl rfl (by first | assumption | exact xup_s | exact o0 | exact b1 | exact gh | (refine (xup_n (by omega)).trans ?_; first | assumption | exact xup_s | exact o0 | exact b1 | exact gh) | (refine (xup_n (by omega)).trans ((xup_n (by omega)).trans ?_); first | assumption | exact xup_s | exact o0 | exact b1 | exact gh) | (refine (xup_n (by omega)).trans ((xup_n (by omega)).trans ((xup_n (by omega)).trans ?_)); first | assumption | exact xup_s | exact o0 | exact b1 | exact gh)) (by rfl) ?_
    refine xs_call (lv2 := [(0, _), (1, _)]) r_87_19 rfl rfl (by decide) (xcan_0 rfl rfl (by first | assumption | exact xup_s | exact o0 | exact b1 | exact gh | (refine (xup_n (by omega)).trans ?_; first | assumption | exact xup_s | exact o0 | exact b1 | exact gh) | (refine (xup_n (by omega)).trans ((xup_n (by omega)).trans ?_); first | assumption | exact xup_s | exact o0 | exact b1 | exact gh) | (refine (xup_n (by omega)).trans ((xup_n (by omega)).trans ((xup_n (by omega)).trans ?_)); first | assumption | exact xup_s | exact o0 | exact b1 | exact gh)) (by rfl)) rfl (e_67 g1 (by omega) hS (by omega) (by omega) (fun f1 x1 y1 => ?_))
    refine xK_0 rfl ?_
    have hB1 := hB.fr (g := f1) (fun c c1 c2 => y1 c (by omega))
    have b2 := hB1.1
    have o2 := (y1 32 (by omega)).trans o0
    refine xs_f 23 r_87_22 rfl ?_
    refine xs_get 26 r_87_23 rfl rfl (by first | assumption | exact xup_s | exact o0 | exact b1 | exact gh | (refine (xup_n (by omega)).trans ?_; first | assumption | exact xup_s | exact o0 | exact b1 | exact gh) | (refine (xup_n (by omega)).trans ((xup_n (by omega)).trans ?_); first | assumption | exact xup_s | exact o0 | exact b1 | exact gh) | (refine (xup_n (by omega)).trans ((xup_n (by omega)).trans ((xup_n (by omega)).trans ?_)); first | assumption | exact xup_s | exact o0 | exact b1 | exact gh)) (by rfl) ?_
    refine xs_f 27 r_87_26 rfl ?_
    refine xs_call (lv2 := [(0, _), (1, _)]) r_87_27 rfl rfl (by decide) (xcan_0 rfl rfl (by first | assumption | exact xup_s | exact o0 | exact b1 | exact gh | (refine (xup_n (by omega)).trans ?_; first | assumption | exact xup_s | exact o0 | exact b1 | exact gh) | (refine (xup_n (by omega)).trans ((xup_n (by omega)).trans ?_); first | assumption | exact xup_s | exact o0 | exact b1 | exact gh) | (refine (xup_n (by omega)).trans ((xup_n (by omega)).trans ((xup_n (by omega)).trans ?_)); first | assumption | exact xup_s | exact o0 | exact b1 | exact gh)) (by rfl)) rfl (c_21 (h := (f1, h.2)) hB1 (by omega) hn (by omega) (fun r hr2 => ((hk.2.1 0 hn).2.2.2.1 r hr2).okE) (fun f2 R2 s2 x2 y2 => ?_))
    refine xK_v rfl ?_
    refine xs_ret r_87_30 rfl ?_
    have ok0 := ((hk.2.1 0 hn).cg (r6 0 hn).symm).2.2.2.1
    subst et
    exact kS h0 f2 _ (hX.nx x1 y1 y2) ⟨_, _, _, _, _, _, _, _, _, _, _, _, _, _, x2, hr.settle hn hk' ok0 (TS, TH), hk.settle n5 hn hk', by omega, by omega⟩ ((y1.wd (by omega) (by omega)).tr (y2.wd (by omega) (by omega)))
  · refine xK_e rfl rfl ?_
    exact kF h0

theorem e_89 {S : XSc} {d : Nat} {h : XH} {Q : XO → XH → Prop} {H Sv : Nat → Int32} {pos ch : Nat} {sv : Bool} {K : Nat} {ea fa : Int32} {G : Nat → Int32} {mn : Nat → Nat} {np no : Nat} {nn : Int32} {N sc : Nat} {ho : Int32} {TS TH tr : Nat → Int32} {pl : Nat → XPl} {q : Nat → XQu} {s : Nat → Nat} {R : Nat → Nat → Nat} (hX : CoX h.1 H Sv pos ch sv K ea fa) (hB : BdP h.1 33 np no nn sc ho TS TH tr pl q s R) (hr : RG G mn np no nn sc ho tr pl q) (hk : OKc np no nn N sc ho TS TH pl q) (hN : N ≤ K) (hs : sc ≤ K) (hK : K ≤ 1000) {p : Int32} (kF : leavF np pl p ≠ 0 → Q (.inr (fE (leavF np pl p))) (xbump h)) (kS : leavF np pl p = 0 → ∀ i, i < np → p = nI i → ∀ f pos, CoX f (psh ch H G) Sv pos (min (ch + 1) 8) sv (K + 1) ea fa → Sim f 33 (xw (wdN G i mn no) (15 + i) 1) (K + 1) → Fr h.1 f 32 794 → Q (.inl (some (.int (nI (cntB (fun j => hasQ (nI i) (q j)) no))))) (f, h.2)) : xP S (d + 6) 89 0 [(0, .ref 32), (1, .int p)] [] h Q := by
  obtain ⟨o0, g1, g2, g3⟩ := id hX
  obtain ⟨⟨⟨-, n5⟩, ⟨-, n6⟩, gm⟩, -, -, r5, r6, -⟩ := id hr
  have b1 := hB.1
  have gh := g1.1
  have hS : Sim h.1 33 G K := ⟨_, _, _, _, _, _, _, _, _, _, _, _, _, _, hB, hr, hk, hN, hs⟩
  refine xs_f 1 r_89_0 rfl ?_
  refine xs_get 4 r_89_1 rfl rfl (by first | assumption | exact xup_s | exact o0 | exact b1 | exact gh | (refine (xup_n (by omega)).trans ?_; first | assumption | exact xup_s | exact o0 | exact b1 | exact gh) | (refine (xup_n (by omega)).trans ((xup_n (by omega)).trans ?_); first | assumption | exact xup_s | exact o0 | exact b1 | exact gh) | (refine (xup_n (by omega)).trans ((xup_n (by omega)).trans ((xup_n (by omega)).trans ?_)); first | assumption | exact xup_s | exact o0 | exact b1 | exact gh)) (by rfl) ?_
  refine xs_f 5 r_89_4 rfl ?_
  refine xs_call (lv2 := [(0, _), (1, _)]) r_89_5 rfl rfl (by decide) (xcan_0 rfl rfl (by first | assumption | exact xup_s | exact o0 | exact b1 | exact gh | (refine (xup_n (by omega)).trans ?_; first | assumption | exact xup_s | exact o0 | exact b1 | exact gh) | (refine (xup_n (by omega)).trans ((xup_n (by omega)).trans ?_); first | assumption | exact xup_s | exact o0 | exact b1 | exact gh) | (refine (xup_n (by omega)).trans ((xup_n (by omega)).trans ((xup_n (by omega)).trans ?_)); first | assumption | exact xup_s | exact o0 | exact b1 | exact gh)) (by rfl)) rfl (c_27 hB (by omega) ?_)
  refine xK_v rfl ?_
  refine xs_call (lv2 := [(0, _)]) r_89_8 rfl rfl (by decide) (xcan_1 rfl) rfl (e_135 (leavF_le np pl p) (fun h0 => ?_) (fun h0 => ?_))
  · have hp : isPl np p := by
      unfold leavF at h0
      split at h0
      · assumption
      · omega
    obtain ⟨i, hi, hpi, hcl⟩ := isPl_c hp (by omega)
    subst hpi
    refine xK_0 rfl ?_
    refine xs_f 12 r_89_11 rfl ?_
    refine xs_get 15 r_89_12 rfl rfl (by first | assumption | exact xup_s | exact o0 | exact b1 | exact gh | (refine (xup_n (by omega)).trans ?_; first | assumption | exact xup_s | exact o0 | exact b1 | exact gh) | (refine (xup_n (by omega)).trans ((xup_n (by omega)).trans ?_); first | assumption | exact xup_s | exact o0 | exact b1 | exact gh) | (refine (xup_n (by omega)).trans ((xup_n (by omega)).trans ((xup_n (by omega)).trans ?_)); first | assumption | exact xup_s | exact o0 | exact b1 | exact gh)) (by rfl) ?_
    refine xs_f 16 r_89_15 rfl ?_
    refine xs_get 19 r_89_16 rfl rfl (by first | assumption | exact xup_s | exact o0 | exact b1 | exact gh | (refine (xup_n (by omega)).trans ?_; first | assumption | exact xup_s | exact o0 | exact b1 | exact gh) | (refine (xup_n (by omega)).trans ((xup_n (by omega)).trans ?_); first | assumption | exact xup_s | exact o0 | exact b1 | exact gh) | (refine (xup_n (by omega)).trans ((xup_n (by omega)).trans ((xup_n (by omega)).trans ?_)); first | assumption | exact xup_s | exact o0 | exact b1 | exact gh)) (by rfl) ?_
    refine xs_call (lv2 := [(0, _), (1, _)]) r_89_19 rfl rfl (by decide) (xcan_0 rfl rfl (by first | assumption | exact xup_s | exact o0 | exact b1 | exact gh | (refine (xup_n (by omega)).trans ?_; first | assumption | exact xup_s | exact o0 | exact b1 | exact gh) | (refine (xup_n (by omega)).trans ((xup_n (by omega)).trans ?_); first | assumption | exact xup_s | exact o0 | exact b1 | exact gh) | (refine (xup_n (by omega)).trans ((xup_n (by omega)).trans ((xup_n (by omega)).trans ?_)); first | assumption | exact xup_s | exact o0 | exact b1 | exact gh)) (by rfl)) rfl (e_67 g1 (by omega) hS (by omega) (by omega) (fun f1 x1 y1 => ?_))
    refine xK_0 rfl ?_
    have hB1 := hB.fr (g := f1) (fun c c1 c2 => y1 c (by omega))
    have b2 := hB1.1
    have o2 := (y1 32 (by omega)).trans o0
    refine xs_f 23 r_89_22 rfl ?_
    refine xs_get 26 r_89_23 rfl rfl (by first | assumption | exact xup_s | exact o0 | exact b1 | exact gh | (refine (xup_n (by omega)).trans ?_; first | assumption | exact xup_s | exact o0 | exact b1 | exact gh) | (refine (xup_n (by omega)).trans ((xup_n (by omega)).trans ?_); first | assumption | exact xup_s | exact o0 | exact b1 | exact gh) | (refine (xup_n (by omega)).trans ((xup_n (by omega)).trans ((xup_n (by omega)).trans ?_)); first | assumption | exact xup_s | exact o0 | exact b1 | exact gh)) (by rfl) ?_
    refine xs_f 27 r_89_26 rfl ?_
    refine xs_call (lv2 := [(0, _), (1, _)]) r_89_27 rfl rfl (by decide) (xcan_0 rfl rfl (by first | assumption | exact xup_s | exact o0 | exact b1 | exact gh | (refine (xup_n (by omega)).trans ?_; first | assumption | exact xup_s | exact o0 | exact b1 | exact gh) | (refine (xup_n (by omega)).trans ((xup_n (by omega)).trans ?_); first | assumption | exact xup_s | exact o0 | exact b1 | exact gh) | (refine (xup_n (by omega)).trans ((xup_n (by omega)).trans ((xup_n (by omega)).trans ?_)); first | assumption | exact xup_s | exact o0 | exact b1 | exact gh)) (by rfl)) rfl (xP_lv [(0, .ref 33), (1, .int (nI i))] rfl ⟨rfl, rfl, trivial⟩ (c_28 (h := (f1, h.2)) hB1 (by omega) (x := i) (by omega) (fun f2 R2 x2 y2 => ?_)))
    refine xK_v rfl ?_
    refine xs_ret r_89_30 rfl ?_
    exact kS h0 i hi rfl f2 _ (hX.nx x1 y1 y2) ⟨_, _, _, _, _, _, _, _, _, _, _, _, _, _, x2, hr.leave hi, hk.leave hi, by omega, by omega⟩ ((y1.wd (by omega) (by omega)).tr (y2.wd (by omega) (by omega)))
  · refine xK_e rfl rfl ?_
    exact kF h0

theorem e_86 {S : XSc} {d : Nat} {h : XH} {Q : XO → XH → Prop} {H Sv : Nat → Int32} {pos ch : Nat} {sv : Bool} {K : Nat} {ea fa : Int32} {G : Nat → Int32} {mn : Nat → Nat} {np no : Nat} {nn : Int32} {N sc : Nat} {ho : Int32} {TS TH tr : Nat → Int32} {pl : Nat → XPl} {q : Nat → XQu} {s : Nat → Nat} {R : Nat → Nat → Nat} (hX : CoX h.1 H Sv pos ch sv K ea fa) (hB : BdP h.1 33 np no nn sc ho TS TH tr pl q s R) (hr : RG G mn np no nn sc ho tr pl q) (hk : OKc np no nn N sc ho TS TH pl q) (hN : N ≤ K) (hs : sc ≤ K) (hK : K ≤ 1000) {p n lo hi2 c sk : Int32} (kF : betF np no pl q p n lo hi2 c sk ≠ 0 → Q (.inr (fE (betF np no pl q p n lo hi2 c sk))) (xbump h)) (kS : betF np no pl q p n lo hi2 c sk = 0 → ∀ i, i < np → p = nI i → ∀ f pos, CoX f (psh ch H G) Sv pos (min (ch + 1) 8) sv (K + 1) ea fa → Sim f 33 (gBet G i (pla (gQ G mn) no n) (mn (pla (gQ G mn) no n)) lo hi2 c sk) (K + 1) → Fr h.1 f 32 794 → Q (.inl (some (.int ((pl i).1 - sk)))) (f, h.2)) : xP S (d + 6) 86 0 [(0, .ref 32), (1, .int p), (2, .int n), (3, .int lo), (4, .int hi2), (5, .int c), (6, .int sk)] [] h Q := by
  obtain ⟨o0, g1, g2, g3⟩ := id hX
  obtain ⟨⟨⟨-, n5⟩, ⟨-, n6⟩, gm⟩, -, -, r5, r6, -⟩ := id hr
  have b1 := hB.1
  have gh := g1.1
  have hS : Sim h.1 33 G K := ⟨_, _, _, _, _, _, _, _, _, _, _, _, _, _, hB, hr, hk, hN, hs⟩
  refine xs_f 1 r_86_0 rfl ?_
  refine xs_get 4 r_86_1 rfl rfl (by first | assumption | exact xup_s | exact o0 | exact b1 | exact gh | (refine (xup_n (by omega)).trans ?_; first | assumption | exact xup_s | exact o0 | exact b1 | exact gh) | (refine (xup_n (by omega)).trans ((xup_n (by omega)).trans ?_); first | assumption | exact xup_s | exact o0 | exact b1 | exact gh) | (refine (xup_n (by omega)).trans ((xup_n (by omega)).trans ((xup_n (by omega)).trans ?_)); first | assumption | exact xup_s | exact o0 | exact b1 | exact gh)) (by rfl) ?_
  refine xs_f 5 r_86_4 rfl ?_
  refine xs_f 6 r_86_5 rfl ?_
  refine xs_f 7 r_86_6 rfl ?_
  refine xs_f 9 r_86_7 rfl ?_
  refine xs_f 11 r_86_9 rfl ?_
  refine xs_f 13 r_86_11 rfl ?_
  refine xs_call (lv2 := [(0, _), (1, _), (2, _), (3, _), (4, _), (5, _), (6, _)]) r_86_13 rfl rfl (by decide) (xcan_0 rfl rfl (by first | assumption | exact xup_s | exact o0 | exact b1 | exact gh | (refine (xup_n (by omega)).trans ?_; first | assumption | exact xup_s | exact o0 | exact b1 | exact gh) | (refine (xup_n (by omega)).trans ((xup_n (by omega)).trans ?_); first | assumption | exact xup_s | exact o0 | exact b1 | exact gh) | (refine (xup_n (by omega)).trans ((xup_n (by omega)).trans ((xup_n (by omega)).trans ?_)); first | assumption | exact xup_s | exact o0 | exact b1 | exact gh)) (by rfl)) rfl (c_18 hB (by omega) ?_)
  refine xK_v rfl ?_
  refine xs_call (lv2 := [(0, _)]) r_86_16 rfl rfl (by decide) (xcan_1 rfl) rfl (e_135 (betF_l5 np no pl q p n lo hi2 c sk) (fun h0 => ?_) (fun h0 => ?_))
  · obtain ⟨hp, hq, hb, hr9⟩ : isPl np p ∧ pla q no n < no ∧ betOK lo hi2 c sk ∧ rnk (q (pla q no n)).2.2.2 (q (pla q no n)).2.2.1 p = (q (pla q no n)).2.2.1 := by
      unfold betF at h0
      split at h0
      · rename_i z1
        split at h0
        · rename_i z2
          split at h0
          · rename_i z3
            refine ⟨z1, z2, z3, ?_⟩
            cases hw : (pl p.toNatClampNeg).2.2.1
            · rw [hw, cond_false] at h0
              split at h0
              · omega
              · rename_i z4
                have := fnd_le (fun i => decide (((q (pla q no n)).2.2.2 i).1 = p)) (q (pla q no n)).2.2.1
                have z5 : ¬ rnk (q (pla q no n)).2.2.2 (q (pla q no n)).2.2.1 p < (q (pla q no n)).2.2.1 := fun z => z4 (Or.inl z)
                unfold rnk at z5 ⊢
                omega
            · rw [hw, cond_true] at h0; omega
          · omega
        · omega
      · omega
    obtain ⟨i, hi, hpi, hcl⟩ := isPl_c hp (by omega)
    subst hpi
    have hm := (hk.2.1 _ hq).room n5 hi hr9
    have ej := pla_cong r6 n
    have em : mn (pla q no n) = (q (pla q no n)).2.2.1 := (r6 _ hq).2.2.1.symm
    refine xK_0 rfl ?_
    refine xs_f 20 r_86_19 rfl ?_
    refine xs_get 23 r_86_20 rfl rfl (by first | assumption | exact xup_s | exact o0 | exact b1 | exact gh | (refine (xup_n (by omega)).trans ?_; first | assumption | exact xup_s | exact o0 | exact b1 | exact gh) | (refine (xup_n (by omega)).trans ((xup_n (by omega)).trans ?_); first | assumption | exact xup_s | exact o0 | exact b1 | exact gh) | (refine (xup_n (by omega)).trans ((xup_n (by omega)).trans ((xup_n (by omega)).trans ?_)); first | assumption | exact xup_s | exact o0 | exact b1 | exact gh)) (by rfl) ?_
    refine xs_f 24 r_86_23 rfl ?_
    refine xs_get 27 r_86_24 rfl rfl (by first | assumption | exact xup_s | exact o0 | exact b1 | exact gh | (refine (xup_n (by omega)).trans ?_; first | assumption | exact xup_s | exact o0 | exact b1 | exact gh) | (refine (xup_n (by omega)).trans ((xup_n (by omega)).trans ?_); first | assumption | exact xup_s | exact o0 | exact b1 | exact gh) | (refine (xup_n (by omega)).trans ((xup_n (by omega)).trans ((xup_n (by omega)).trans ?_)); first | assumption | exact xup_s | exact o0 | exact b1 | exact gh)) (by rfl) ?_
    refine xs_call (lv2 := [(0, _), (1, _)]) r_86_27 rfl rfl (by decide) (xcan_0 rfl rfl (by first | assumption | exact xup_s | exact o0 | exact b1 | exact gh | (refine (xup_n (by omega)).trans ?_; first | assumption | exact xup_s | exact o0 | exact b1 | exact gh) | (refine (xup_n (by omega)).trans ((xup_n (by omega)).trans ?_); first | assumption | exact xup_s | exact o0 | exact b1 | exact gh) | (refine (xup_n (by omega)).trans ((xup_n (by omega)).trans ((xup_n (by omega)).trans ?_)); first | assumption | exact xup_s | exact o0 | exact b1 | exact gh)) (by rfl)) rfl (e_67 g1 (by omega) hS (by omega) (by omega) (fun f1 x1 y1 => ?_))
    refine xK_0 rfl ?_
    have hB1 := hB.fr (g := f1) (fun c c1 c2 => y1 c (by omega))
    have b2 := hB1.1
    have o2 := (y1 32 (by omega)).trans o0
    refine xs_f 31 r_86_30 rfl ?_
    refine xs_get 34 r_86_31 rfl rfl (by first | assumption | exact xup_s | exact o0 | exact b1 | exact gh | (refine (xup_n (by omega)).trans ?_; first | assumption | exact xup_s | exact o0 | exact b1 | exact gh) | (refine (xup_n (by omega)).trans ((xup_n (by omega)).trans ?_); first | assumption | exact xup_s | exact o0 | exact b1 | exact gh) | (refine (xup_n (by omega)).trans ((xup_n (by omega)).trans ((xup_n (by omega)).trans ?_)); first | assumption | exact xup_s | exact o0 | exact b1 | exact gh)) (by rfl) ?_
    refine xs_f 35 r_86_34 rfl ?_
    refine xs_f 36 r_86_35 rfl ?_
    refine xs_f 37 r_86_36 rfl ?_
    refine xs_f 39 r_86_37 rfl ?_
    refine xs_f 41 r_86_39 rfl ?_
    refine xs_f 43 r_86_41 rfl ?_
    refine xs_call (lv2 := [(0, _), (1, _), (2, _), (3, _), (4, _), (5, _), (6, _)]) r_86_43 rfl rfl (by decide) (xcan_0 rfl rfl (by first | assumption | exact xup_s | exact o0 | exact b1 | exact gh | (refine (xup_n (by omega)).trans ?_; first | assumption | exact xup_s | exact o0 | exact b1 | exact gh) | (refine (xup_n (by omega)).trans ((xup_n (by omega)).trans ?_); first | assumption | exact xup_s | exact o0 | exact b1 | exact gh) | (refine (xup_n (by omega)).trans ((xup_n (by omega)).trans ((xup_n (by omega)).trans ?_)); first | assumption | exact xup_s | exact o0 | exact b1 | exact gh)) (by rfl)) rfl (c_19 (h := (f1, h.2)) hB1 (by omega) (i := i) (j := pla q no n) (by omega) rfl hq hm (fun f2 R2 x2 y2 => ?_))
    refine xK_v rfl ?_
    refine xs_ret r_86_46 rfl ?_
    rw [← ej] at kS
    exact kS h0 i hi rfl f2 _ (hX.nx x1 y1 y2) ⟨_, _, _, _, _, _, _, _, _, _, _, _, _, _, x2, hr.bet hi hq rfl (by omega) lo hi2 c sk, hk.bet hi hq hb hm hr9, by omega, by omega⟩ ((y1.wd (by omega) (by omega)).tr (y2.wd (by omega) (by omega)))
  · refine xK_e rfl rfl ?_
    exact kF h0

