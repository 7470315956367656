/-! the reference's calls that change it -/
theorem cJoin_le (np : Nat) : cJoin np ≤ 9 := by unfold cJoin; split <;> omega
theorem cAsk_le (no : Nat) (w : Int32) : cAsk no w ≤ 9 := by unfold cAsk; (repeat' split) <;> omega
theorem cSet_le (no : Nat) (w : Int32) : cSet no w ≤ 9 := by unfold cSet; (repeat' split) <;> omega
theorem cPst_le (no : Nat) : cPst no ≤ 9 := by unfold cPst; split <;> omega
theorem cLea_le (np : Nat) (pl : Nat → XPl) (p : Int32) : cLea np pl p ≤ 9 := by
  unfold cLea
  split
  · cases (pl p.toNatClampNeg).2.2.1 <;> decide
  · omega
theorem betF_le {np no : Nat} {pl : Nat → XPl} {q : Nat → XQu} {p n lo hi c s : Int32} : betF np no pl q p n lo hi c s ≤ 9 := by
  unfold betF
  split
  · split
    · split
      · cases (pl p.toNatClampNeg).2.2.1
        · rw [cond_false]; split <;> omega
        · show 4 ≤ 9; omega
      · omega
    · omega
  · omega
theorem m_162 {S : XSc} {d : Nat} {h : XH} {Q : XO → XH → Prop} {a : Nat} {G B H Sv Bu Le Mo Pa : Nat → Int32} {np no : Nat} {mn : Nat → Nat} {ch : Nat} {sv ty ea fa ol th sp wr : Int32} (hM : MdP h.1 a G B H Sv Bu Le Mo Pa (nI ch) sv ty ea fa ol th sp wr) (hG : WG G np no mn) (h32 : 32 ≤ a) (h8 : ch ≤ 8)  (kF : (cJoin np) ≠ 0 → ∀ f, MdP f a G G H Sv Bu Le Mo Pa (nI ch) sv ty ea fa ol (nI (cJoin np)) sp wr → Fr h.1 f a (a + 9) → Q (.inl (some (.int 0))) (f, h.2)) (kS : (cJoin np) = 0 → ∀ f, MdP f a (xw (xw G (10 + np) 100) 0 (nI (np + 1))) G (psh ch H G) Sv Bu Le Mo Pa (nI (min (ch + 1) 8)) sv ty ea fa ol 0 sp wr → Fr h.1 f a (a + 9) → Q (.inl (some (.int (nI np)))) (f, h.2)) : xP S (d + 2) 162 0 [(0, .ref a)] [] h Q := by
  obtain ⟨o0, g0, b0, H0, Sv0, Bu0, Le0, Mo0, Pa0⟩ := id hM
  have np5 := hG.1.2
  have no6 := hG.2.1.2
  refine xs_f 1 r_162_0 rfl ?_
  refine xs_call (lv2 := [(0, _)]) r_162_1 rfl rfl (by decide) (xcan_0 rfl rfl (by first | assumption | exact o0) (by rfl)) rfl (m_155 o0 g0 b0 h32 (fun f1 b1 y1 => ?_))
  have o2 := (y1 _ (by omega)).trans o0
  have g3 := g0.fr (y1 _ (by omega))
  have H4 := H0.fr (y1 _ (by omega))
  have Sv5 := Sv0.fr (y1 _ (by omega))
  have Bu6 := Bu0.fr (y1 _ (by omega))
  have Le7 := Le0.fr (y1 _ (by omega))
  have Mo8 := Mo0.fr (y1 _ (by omega))
  have Pa9 := Pa0.fr (y1 _ (by omega))
  have Y10 := (Fr.rf : Fr h.1 h.1 a (a + 9)).tr (y1.wd (by omega) (by omega))
  refine xK_0 rfl ?_
  refine xs_f 5 r_162_4 rfl ?_
  refine xs_f 6 r_162_5 rfl ?_
  refine xs_call (lv2 := [(0, _)]) r_162_6 rfl rfl (by decide) (xcan_0 rfl rfl (by first | assumption | exact o2) (by rfl)) rfl (m_161 o2 g3 hG h32 (fun hc f11 o11 g11 y11 => ?_) (fun hc f11 o11 g11 y11 => ?_))
  · have b12 := b1.fr (y11 _ (by omega))
    have H13 := H4.fr (y11 _ (by omega))
    have Sv14 := Sv5.fr (y11 _ (by omega))
    have Bu15 := Bu6.fr (y11 _ (by omega))
    have Le16 := Le7.fr (y11 _ (by omega))
    have Mo17 := Mo8.fr (y11 _ (by omega))
    have Pa18 := Pa9.fr (y11 _ (by omega))
    have Y19 := Y10.tr (y11.wd (by omega) (by omega))
    refine xK_v rfl ?_
    refine xs_call (lv2 := [(0, _), (1, _)]) r_162_9 rfl rfl (by decide) (xcan_0 rfl rfl (by first | assumption | exact o11) (by rfl)) rfl (m_156 o11 g11 b12 H13 h32 h8 (fun hz f20 g20 y20 => ?_) (fun hz => absurd ((nI_eqN (x := nI (cJoin np)) rfl (nI_k 0) (by have := cJoin_le np; omega) (by omega)).mp hz) hc))
    have o21 := (y20 _ (by omega)).trans o11
    have b22 := b12.fr (y20 _ (by omega))
    have H23 := H13.fr (y20 _ (by omega))
    have Sv24 := Sv14.fr (y20 _ (by omega))
    have Bu25 := Bu15.fr (y20 _ (by omega))
    have Le26 := Le16.fr (y20 _ (by omega))
    have Mo27 := Mo17.fr (y20 _ (by omega))
    have Pa28 := Pa18.fr (y20 _ (by omega))
    have Y29 := Y19.tr (y20.wd (by omega) (by omega))
    refine xK_v rfl ?_
    refine xs_ret r_162_12 rfl ?_
    first
      | exact kS hc _ ⟨o21, g20, b22, H23, Sv24, Bu25, Le26, Mo27, Pa28⟩ Y29
      | exact kF hc _ ⟨o21, g20, b22, H23, Sv24, Bu25, Le26, Mo27, Pa28⟩ Y29
  · have b30 := b1.fr (y11 _ (by omega))
    have H31 := H4.fr (y11 _ (by omega))
    have Sv32 := Sv5.fr (y11 _ (by omega))
    have Bu33 := Bu6.fr (y11 _ (by omega))
    have Le34 := Le7.fr (y11 _ (by omega))
    have Mo35 := Mo8.fr (y11 _ (by omega))
    have Pa36 := Pa9.fr (y11 _ (by omega))
    have Y37 := Y10.tr (y11.wd (by omega) (by omega))
    refine xK_v rfl ?_
    refine xs_call (lv2 := [(0, _), (1, _)]) r_162_9 rfl rfl (by decide) (xcan_0 rfl rfl (by first | assumption | exact o11) (by rfl)) rfl (m_156 o11 g11 b30 H31 h32 h8 (fun hz => absurd rfl hz) (fun hz f38 o38 H38 y38 => ?_))
    have g39 := g11.fr (y38 _ (by omega))
    have b40 := b30.fr (y38 _ (by omega))
    have Sv41 := Sv32.fr (y38 _ (by omega))
    have Bu42 := Bu33.fr (y38 _ (by omega))
    have Le43 := Le34.fr (y38 _ (by omega))
    have Mo44 := Mo35.fr (y38 _ (by omega))
    have Pa45 := Pa36.fr (y38 _ (by omega))
    have Y46 := Y37.tr (y38.wd (by omega) (by omega))
    refine xK_v rfl ?_
    refine xs_ret r_162_12 rfl ?_
    first
      | exact kS hc _ ⟨o38, g39, b40, H38, Sv41, Bu42, Le43, Mo44, Pa45⟩ Y46
      | exact kF hc _ ⟨o38, g39, b40, H38, Sv41, Bu42, Le43, Mo44, Pa45⟩ Y46

theorem m_164 {S : XSc} {d : Nat} {h : XH} {Q : XO → XH → Prop} {a : Nat} {G B H Sv Bu Le Mo Pa : Nat → Int32} {np no : Nat} {mn : Nat → Nat} {ch : Nat} {sv ty ea fa ol th sp wr : Int32} (hM : MdP h.1 a G B H Sv Bu Le Mo Pa (nI ch) sv ty ea fa ol th sp wr) (hG : WG G np no mn) (h32 : 32 ≤ a) (h8 : ch ≤ 8) {w : Int32} (kF : (cAsk no w) ≠ 0 → ∀ f, MdP f a G G H Sv Bu Le Mo Pa (nI ch) sv ty ea fa ol (nI (cAsk no w)) sp wr → Fr h.1 f a (a + 9) → Q (.inl (some (.int 0))) (f, h.2)) (kS : (cAsk no w) = 0 → ∀ f, MdP f a (gAsk G no w) G (psh ch H G) Sv Bu Le Mo Pa (nI (min (ch + 1) 8)) sv ty ea fa ol 0 sp wr → Fr h.1 f a (a + 9) → Q (.inl (some (.int (G 2)))) (f, h.2)) : xP S (d + 2) 164 0 [(0, .ref a), (1, .int w)] [] h Q := by
  obtain ⟨o0, g0, b0, H0, Sv0, Bu0, Le0, Mo0, Pa0⟩ := id hM
  have np5 := hG.1.2
  have no6 := hG.2.1.2
  refine xs_f 1 r_164_0 rfl ?_
  refine xs_call (lv2 := [(0, _)]) r_164_1 rfl rfl (by decide) (xcan_0 rfl rfl (by first | assumption | exact o0) (by rfl)) rfl (m_155 o0 g0 b0 h32 (fun f1 b1 y1 => ?_))
  have o2 := (y1 _ (by omega)).trans o0
  have g3 := g0.fr (y1 _ (by omega))
  have H4 := H0.fr (y1 _ (by omega))
  have Sv5 := Sv0.fr (y1 _ (by omega))
  have Bu6 := Bu0.fr (y1 _ (by omega))
  have Le7 := Le0.fr (y1 _ (by omega))
  have Mo8 := Mo0.fr (y1 _ (by omega))
  have Pa9 := Pa0.fr (y1 _ (by omega))
  have Y10 := (Fr.rf : Fr h.1 h.1 a (a + 9)).tr (y1.wd (by omega) (by omega))
  refine xK_0 rfl ?_
  refine xs_f 5 r_164_4 rfl ?_
  refine xs_f 6 r_164_5 rfl ?_
  refine xs_f 7 r_164_6 rfl ?_
  refine xs_call (lv2 := [(0, _), (1, _)]) r_164_7 rfl rfl (by decide) (xcan_0 rfl rfl (by first | assumption | exact o2) (by rfl)) rfl (m_163 o2 g3 hG h32 (fun hc f11 o11 g11 y11 => ?_) (fun hc f11 o11 g11 y11 => ?_))
  · have b12 := b1.fr (y11 _ (by omega))
    have H13 := H4.fr (y11 _ (by omega))
    have Sv14 := Sv5.fr (y11 _ (by omega))
    have Bu15 := Bu6.fr (y11 _ (by omega))
    have Le16 := Le7.fr (y11 _ (by omega))
    have Mo17 := Mo8.fr (y11 _ (by omega))
    have Pa18 := Pa9.fr (y11 _ (by omega))
    have Y19 := Y10.tr (y11.wd (by omega) (by omega))
    refine xK_v rfl ?_
    refine xs_call (lv2 := [(0, _), (1, _)]) r_164_10 rfl rfl (by decide) (xcan_0 rfl rfl (by first | assumption | exact o11) (by rfl)) rfl (m_156 o11 g11 b12 H13 h32 h8 (fun hz f20 g20 y20 => ?_) (fun hz => absurd ((nI_eqN (x := nI (cAsk no w)) rfl (nI_k 0) (by have := cAsk_le no w; omega) (by omega)).mp hz) hc))
    have o21 := (y20 _ (by omega)).trans o11
    have b22 := b12.fr (y20 _ (by omega))
    have H23 := H13.fr (y20 _ (by omega))
    have Sv24 := Sv14.fr (y20 _ (by omega))
    have Bu25 := Bu15.fr (y20 _ (by omega))
    have Le26 := Le16.fr (y20 _ (by omega))
    have Mo27 := Mo17.fr (y20 _ (by omega))
    have Pa28 := Pa18.fr (y20 _ (by omega))
    have Y29 := Y19.tr (y20.wd (by omega) (by omega))
    refine xK_v rfl ?_
    refine xs_ret r_164_13 rfl ?_
    first
      | exact kS hc _ ⟨o21, g20, b22, H23, Sv24, Bu25, Le26, Mo27, Pa28⟩ Y29
      | exact kF hc _ ⟨o21, g20, b22, H23, Sv24, Bu25, Le26, Mo27, Pa28⟩ Y29
  · have b30 := b1.fr (y11 _ (by omega))
    have H31 := H4.fr (y11 _ (by omega))
    have Sv32 := Sv5.fr (y11 _ (by omega))
    have Bu33 := Bu6.fr (y11 _ (by omega))
    have Le34 := Le7.fr (y11 _ (by omega))
    have Mo35 := Mo8.fr (y11 _ (by omega))
    have Pa36 := Pa9.fr (y11 _ (by omega))
    have Y37 := Y10.tr (y11.wd (by omega) (by omega))
    refine xK_v rfl ?_
    refine xs_call (lv2 := [(0, _), (1, _)]) r_164_10 rfl rfl (by decide) (xcan_0 rfl rfl (by first | assumption | exact o11) (by rfl)) rfl (m_156 o11 g11 b30 H31 h32 h8 (fun hz => absurd rfl hz) (fun hz f38 o38 H38 y38 => ?_))
    have g39 := g11.fr (y38 _ (by omega))
    have b40 := b30.fr (y38 _ (by omega))
    have Sv41 := Sv32.fr (y38 _ (by omega))
    have Bu42 := Bu33.fr (y38 _ (by omega))
    have Le43 := Le34.fr (y38 _ (by omega))
    have Mo44 := Mo35.fr (y38 _ (by omega))
    have Pa45 := Pa36.fr (y38 _ (by omega))
    have Y46 := Y37.tr (y38.wd (by omega) (by omega))
    refine xK_v rfl ?_
    refine xs_ret r_164_13 rfl ?_
    first
      | exact kS hc _ ⟨o38, g39, b40, H38, Sv41, Bu42, Le43, Mo44, Pa45⟩ Y46
      | exact kF hc _ ⟨o38, g39, b40, H38, Sv41, Bu42, Le43, Mo44, Pa45⟩ Y46

theorem m_167 {S : XSc} {d : Nat} {h : XH} {Q : XO → XH → Prop} {a : Nat} {G B H Sv Bu Le Mo Pa : Nat → Int32} {np no : Nat} {mn : Nat → Nat} {ch : Nat} {sv ty ea fa ol th sp wr : Int32} (hM : MdP h.1 a G B H Sv Bu Le Mo Pa (nI ch) sv ty ea fa ol th sp wr) (hG : WG G np no mn) (h32 : 32 ≤ a) (h8 : ch ≤ 8) {p n lo hi c s : Int32} (hrm : ∀ i j, i < np → j < no → rnk (gE G j) (mn j) (nI i) = mn j → mn j < 5) (kF : (betF np no (gP G) (gQ G mn) p n lo hi c s) ≠ 0 → ∀ f, MdP f a G G H Sv Bu Le Mo Pa (nI ch) sv ty ea fa ol (nI (betF np no (gP G) (gQ G mn) p n lo hi c s)) sp wr → Fr h.1 f a (a + 9) → Q (.inl (some (.int 0))) (f, h.2)) (kS : (betF np no (gP G) (gQ G mn) p n lo hi c s) = 0 → ∀ i, i < np → p = nI i → (pla (gQ G mn) no n) < no → mn (pla (gQ G mn) no n) < 5 → ∀ f, MdP f a (gBet G i (pla (gQ G mn) no n) (mn (pla (gQ G mn) no n)) lo hi c s) G (psh ch H G) Sv Bu Le Mo Pa (nI (min (ch + 1) 8)) sv ty ea fa ol 0 sp wr → Fr h.1 f a (a + 9) → Q (.inl (some (.int (G (10 + i) - s)))) (f, h.2)) : xP S (d + 3) 167 0 [(0, .ref a), (1, .int p), (2, .int n), (3, .int lo), (4, .int hi), (5, .int c), (6, .int s)] [] h Q := by
  obtain ⟨o0, g0, b0, H0, Sv0, Bu0, Le0, Mo0, Pa0⟩ := id hM
  have np5 := hG.1.2
  have no6 := hG.2.1.2
  refine xs_f 1 r_167_0 rfl ?_
  refine xs_call (lv2 := [(0, _)]) r_167_1 rfl rfl (by decide) (xcan_0 rfl rfl (by first | assumption | exact o0) (by rfl)) rfl (m_155 o0 g0 b0 h32 (fun f1 b1 y1 => ?_))
  have o2 := (y1 _ (by omega)).trans o0
  have g3 := g0.fr (y1 _ (by omega))
  have H4 := H0.fr (y1 _ (by omega))
  have Sv5 := Sv0.fr (y1 _ (by omega))
  have Bu6 := Bu0.fr (y1 _ (by omega))
  have Le7 := Le0.fr (y1 _ (by omega))
  have Mo8 := Mo0.fr (y1 _ (by omega))
  have Pa9 := Pa0.fr (y1 _ (by omega))
  have Y10 := (Fr.rf : Fr h.1 h.1 a (a + 9)).tr (y1.wd (by omega) (by omega))
  refine xK_0 rfl ?_
  refine xs_f 5 r_167_4 rfl ?_
  refine xs_f 6 r_167_5 rfl ?_
  refine xs_f 7 r_167_6 rfl ?_
  refine xs_f 8 r_167_7 rfl ?_
  refine xs_f 9 r_167_8 rfl ?_
  refine xs_f 11 r_167_9 rfl ?_
  refine xs_f 13 r_167_11 rfl ?_
  refine xs_f 15 r_167_13 rfl ?_
  refine xs_call (lv2 := [(0, _), (1, _), (2, _), (3, _), (4, _), (5, _), (6, _)]) r_167_15 rfl rfl (by decide) (xcan_0 rfl rfl (by first | assumption | exact o2) (by rfl)) rfl (m_166 o2 g3 hG h32 hrm (fun hc f11 o11 g11 y11 => ?_) (fun hc i hi hpi hq hm4 f11 o11 g11 y11 => ?_))
  · have b12 := b1.fr (y11 _ (by omega))
    have H13 := H4.fr (y11 _ (by omega))
    have Sv14 := Sv5.fr (y11 _ (by omega))
    have Bu15 := Bu6.fr (y11 _ (by omega))
    have Le16 := Le7.fr (y11 _ (by omega))
    have Mo17 := Mo8.fr (y11 _ (by omega))
    have Pa18 := Pa9.fr (y11 _ (by omega))
    have Y19 := Y10.tr (y11.wd (by omega) (by omega))
    refine xK_v rfl ?_
    refine xs_call (lv2 := [(0, _), (1, _)]) r_167_18 rfl rfl (by decide) (xcan_0 rfl rfl (by first | assumption | exact o11) (by rfl)) rfl (m_156 o11 g11 b12 H13 h32 h8 (fun hz f20 g20 y20 => ?_) (fun hz => absurd ((nI_eqN (x := nI (betF np no (gP G) (gQ G mn) p n lo hi c s)) rfl (nI_k 0) (by have := betF_le (np := np) (no := no) (pl := gP G) (q := gQ G mn) (p := p) (n := n) (lo := lo) (hi := hi) (c := c) (s := s); omega) (by omega)).mp hz) hc))
    have o21 := (y20 _ (by omega)).trans o11
    have b22 := b12.fr (y20 _ (by omega))
    have H23 := H13.fr (y20 _ (by omega))
    have Sv24 := Sv14.fr (y20 _ (by omega))
    have Bu25 := Bu15.fr (y20 _ (by omega))
    have Le26 := Le16.fr (y20 _ (by omega))
    have Mo27 := Mo17.fr (y20 _ (by omega))
    have Pa28 := Pa18.fr (y20 _ (by omega))
    have Y29 := Y19.tr (y20.wd (by omega) (by omega))
    refine xK_v rfl ?_
    refine xs_ret r_167_21 rfl ?_
    first
      | exact kS hc i hi hpi hq hm4 _ ⟨o21, g20, b22, H23, Sv24, Bu25, Le26, Mo27, Pa28⟩ Y29
      | exact kF hc _ ⟨o21, g20, b22, H23, Sv24, Bu25, Le26, Mo27, Pa28⟩ Y29
  · have b30 := b1.fr (y11 _ (by omega))
    have H31 := H4.fr (y11 _ (by omega))
    have Sv32 := Sv5.fr (y11 _ (by omega))
    have Bu33 := Bu6.fr (y11 _ (by omega))
    have Le34 := Le7.fr (y11 _ (by omega))
    have Mo35 := Mo8.fr (y11 _ (by omega))
    have Pa36 := Pa9.fr (y11 _ (by omega))
    have Y37 := Y10.tr (y11.wd (by omega) (by omega))
    refine xK_v rfl ?_
    refine xs_call (lv2 := [(0, _), (1, _)]) r_167_18 rfl rfl (by decide) (xcan_0 rfl rfl (by first | assumption | exact o11) (by rfl)) rfl (m_156 o11 g11 b30 H31 h32 h8 (fun hz => absurd rfl hz) (fun hz f38 o38 H38 y38 => ?_))
    have g39 := g11.fr (y38 _ (by omega))
    have b40 := b30.fr (y38 _ (by omega))
    have Sv41 := Sv32.fr (y38 _ (by omega))
    have Bu42 := Bu33.fr (y38 _ (by omega))
    have Le43 := Le34.fr (y38 _ (by omega))
    have Mo44 := Mo35.fr (y38 _ (by omega))
    have Pa45 := Pa36.fr (y38 _ (by omega))
    have Y46 := Y37.tr (y38.wd (by omega) (by omega))
    refine xK_v rfl ?_
    refine xs_ret r_167_21 rfl ?_
    first
      | exact kS hc i hi hpi hq hm4 _ ⟨o38, g39, b40, H38, Sv41, Bu42, Le43, Mo44, Pa45⟩ Y46
      | exact kF hc _ ⟨o38, g39, b40, H38, Sv41, Bu42, Le43, Mo44, Pa45⟩ Y46

theorem m_173 {S : XSc} {d : Nat} {h : XH} {Q : XO → XH → Prop} {a : Nat} {G B H Sv Bu Le Mo Pa : Nat → Int32} {np no : Nat} {mn : Nat → Nat} {ch : Nat} {sv ty ea fa ol th sp wr : Int32} (hM : MdP h.1 a G B H Sv Bu Le Mo Pa (nI ch) sv ty ea fa ol th sp wr) (hG : WG G np no mn) (h32 : 32 ≤ a) (h8 : ch ≤ 8) {sc : Nat} (hsc : G 4 = nI sc) (hs : sc ≤ 100000) (hok : okQ (gE G 0) (mn 0)) {t : Int32} (kF : (cSet no t) ≠ 0 → ∀ f, MdP f a G G H Sv Bu Le Mo Pa (nI ch) sv ty ea fa ol (nI (cSet no t)) sp wr → Fr h.1 f a (a + 9) → Q (.inl (some (.int 0))) (f, h.2)) (kS : (cSet no t) = 0 → ∀ f, MdP f a (gSet G no (mn 0) sc t) G (psh ch H G) Sv Bu Le Mo Pa (nI (min (ch + 1) 8)) sv ty ea fa ol 0 sp wr → Fr h.1 f a (a + 9) → Q (.inl (some (.int (nI (cntB (fun r => hitM (gE G 0 r) t) (mn 0)))))) (f, h.2)) : xP S (d + 4) 173 0 [(0, .ref a), (1, .int t)] [] h Q := by
  obtain ⟨o0, g0, b0, H0, Sv0, Bu0, Le0, Mo0, Pa0⟩ := id hM
  have np5 := hG.1.2
  have no6 := hG.2.1.2
  refine xs_f 1 r_173_0 rfl ?_
  refine xs_call (lv2 := [(0, _)]) r_173_1 rfl rfl (by decide) (xcan_0 rfl rfl (by first | assumption | exact o0) (by rfl)) rfl (m_155 o0 g0 b0 h32 (fun f1 b1 y1 => ?_))
  have o2 := (y1 _ (by omega)).trans o0
  have g3 := g0.fr (y1 _ (by omega))
  have H4 := H0.fr (y1 _ (by omega))
  have Sv5 := Sv0.fr (y1 _ (by omega))
  have Bu6 := Bu0.fr (y1 _ (by omega))
  have Le7 := Le0.fr (y1 _ (by omega))
  have Mo8 := Mo0.fr (y1 _ (by omega))
  have Pa9 := Pa0.fr (y1 _ (by omega))
  have Y10 := (Fr.rf : Fr h.1 h.1 a (a + 9)).tr (y1.wd (by omega) (by omega))
  refine xK_0 rfl ?_
  refine xs_f 5 r_173_4 rfl ?_
  refine xs_f 6 r_173_5 rfl ?_
  refine xs_f 7 r_173_6 rfl ?_
  refine xs_call (lv2 := [(0, _), (1, _)]) r_173_7 rfl rfl (by decide) (xcan_0 rfl rfl (by first | assumption | exact o2) (by rfl)) rfl (m_172 o2 g3 hG h32 hsc hs hok (fun hc f11 o11 g11 y11 => ?_) (fun hc f11 o11 g11 y11 => ?_))
  · have b12 := b1.fr (y11 _ (by omega))
    have H13 := H4.fr (y11 _ (by omega))
    have Sv14 := Sv5.fr (y11 _ (by omega))
    have Bu15 := Bu6.fr (y11 _ (by omega))
    have Le16 := Le7.fr (y11 _ (by omega))
    have Mo17 := Mo8.fr (y11 _ (by omega))
    have Pa18 := Pa9.fr (y11 _ (by omega))
    have Y19 := Y10.tr (y11.wd (by omega) (by omega))
    refine xK_v rfl ?_
    refine xs_call (lv2 := [(0, _), (1, _)]) r_173_10 rfl rfl (by decide) (xcan_0 rfl rfl (by first | assumption | exact o11) (by rfl)) rfl (m_156 o11 g11 b12 H13 h32 h8 (fun hz f20 g20 y20 => ?_) (fun hz => absurd ((nI_eqN (x := nI (cSet no t)) rfl (nI_k 0) (by have := cSet_le no t; omega) (by omega)).mp hz) hc))
    have o21 := (y20 _ (by omega)).trans o11
    have b22 := b12.fr (y20 _ (by omega))
    have H23 := H13.fr (y20 _ (by omega))
    have Sv24 := Sv14.fr (y20 _ (by omega))
    have Bu25 := Bu15.fr (y20 _ (by omega))
    have Le26 := Le16.fr (y20 _ (by omega))
    have Mo27 := Mo17.fr (y20 _ (by omega))
    have Pa28 := Pa18.fr (y20 _ (by omega))
    have Y29 := Y19.tr (y20.wd (by omega) (by omega))
    refine xK_v rfl ?_
    refine xs_ret r_173_13 rfl ?_
    first
      | exact kS hc _ ⟨o21, g20, b22, H23, Sv24, Bu25, Le26, Mo27, Pa28⟩ Y29
      | exact kF hc _ ⟨o21, g20, b22, H23, Sv24, Bu25, Le26, Mo27, Pa28⟩ Y29
  · have b30 := b1.fr (y11 _ (by omega))
    have H31 := H4.fr (y11 _ (by omega))
    have Sv32 := Sv5.fr (y11 _ (by omega))
    have Bu33 := Bu6.fr (y11 _ (by omega))
    have Le34 := Le7.fr (y11 _ (by omega))
    have Mo35 := Mo8.fr (y11 _ (by omega))
    have Pa36 := Pa9.fr (y11 _ (by omega))
    have Y37 := Y10.tr (y11.wd (by omega) (by omega))
    refine xK_v rfl ?_
    refine xs_call (lv2 := [(0, _), (1, _)]) r_173_10 rfl rfl (by decide) (xcan_0 rfl rfl (by first | assumption | exact o11) (by rfl)) rfl (m_156 o11 g11 b30 H31 h32 h8 (fun hz => absurd rfl hz) (fun hz f38 o38 H38 y38 => ?_))
    have g39 := g11.fr (y38 _ (by omega))
    have b40 := b30.fr (y38 _ (by omega))
    have Sv41 := Sv32.fr (y38 _ (by omega))
    have Bu42 := Bu33.fr (y38 _ (by omega))
    have Le43 := Le34.fr (y38 _ (by omega))
    have Mo44 := Mo35.fr (y38 _ (by omega))
    have Pa45 := Pa36.fr (y38 _ (by omega))
    have Y46 := Y37.tr (y38.wd (by omega) (by omega))
    refine xK_v rfl ?_
    refine xs_ret r_173_13 rfl ?_
    first
      | exact kS hc _ ⟨o38, g39, b40, H38, Sv41, Bu42, Le43, Mo44, Pa45⟩ Y46
      | exact kF hc _ ⟨o38, g39, b40, H38, Sv41, Bu42, Le43, Mo44, Pa45⟩ Y46

theorem m_175 {S : XSc} {d : Nat} {h : XH} {Q : XO → XH → Prop} {a : Nat} {G B H Sv Bu Le Mo Pa : Nat → Int32} {np no : Nat} {mn : Nat → Nat} {ch : Nat} {sv ty ea fa ol th sp wr : Int32} (hM : MdP h.1 a G B H Sv Bu Le Mo Pa (nI ch) sv ty ea fa ol th sp wr) (hG : WG G np no mn) (h32 : 32 ≤ a) (h8 : ch ≤ 8)  (kF : (cPst no) ≠ 0 → ∀ f, MdP f a G G H Sv Bu Le Mo Pa (nI ch) sv ty ea fa ol (nI (cPst no)) sp wr → Fr h.1 f a (a + 9) → Q (.inl (some (.int 0))) (f, h.2)) (kS : (cPst no) = 0 → ∀ Mo, ∀ f, MdP f a (gPst G no) G (psh ch H G) Sv Bu Le Mo Pa (nI (min (ch + 1) 8)) sv ty ea fa ol 0 sp wr → Fr h.1 f a (a + 9) → Q (.inl (some (.int (gPst G no 120)))) (f, h.2)) : xP S (d + 4) 175 0 [(0, .ref a)] [] h Q := by
  obtain ⟨o0, g0, b0, H0, Sv0, Bu0, Le0, Mo0, Pa0⟩ := id hM
  have np5 := hG.1.2
  have no6 := hG.2.1.2
  refine xs_f 1 r_175_0 rfl ?_
  refine xs_call (lv2 := [(0, _)]) r_175_1 rfl rfl (by decide) (xcan_0 rfl rfl (by first | assumption | exact o0) (by rfl)) rfl (m_155 o0 g0 b0 h32 (fun f1 b1 y1 => ?_))
  have o2 := (y1 _ (by omega)).trans o0
  have g3 := g0.fr (y1 _ (by omega))
  have H4 := H0.fr (y1 _ (by omega))
  have Sv5 := Sv0.fr (y1 _ (by omega))
  have Bu6 := Bu0.fr (y1 _ (by omega))
  have Le7 := Le0.fr (y1 _ (by omega))
  have Mo8 := Mo0.fr (y1 _ (by omega))
  have Pa9 := Pa0.fr (y1 _ (by omega))
  have Y10 := (Fr.rf : Fr h.1 h.1 a (a + 9)).tr (y1.wd (by omega) (by omega))
  refine xK_0 rfl ?_
  refine xs_f 5 r_175_4 rfl ?_
  refine xs_f 6 r_175_5 rfl ?_
  refine xs_call (lv2 := [(0, _)]) r_175_6 rfl rfl (by decide) (xcan_0 rfl rfl (by first | assumption | exact o2) (by rfl)) rfl (m_174 o2 g3 hG h32 Mo8 (fun hc f11 o11 g11 Mo11 y11 => ?_) (fun hc f11 Mq11 o11 g11 Mo11 y11 => ?_))
  · have b12 := b1.fr (y11 _ (by omega))
    have H13 := H4.fr (y11 _ (by omega))
    have Sv14 := Sv5.fr (y11 _ (by omega))
    have Bu15 := Bu6.fr (y11 _ (by omega))
    have Le16 := Le7.fr (y11 _ (by omega))
    have Pa17 := Pa9.fr (y11 _ (by omega))
    have Y18 := Y10.tr (y11.wd (by omega) (by omega))
    refine xK_v rfl ?_
    refine xs_call (lv2 := [(0, _), (1, _)]) r_175_9 rfl rfl (by decide) (xcan_0 rfl rfl (by first | assumption | exact o11) (by rfl)) rfl (m_156 o11 g11 b12 H13 h32 h8 (fun hz f19 g19 y19 => ?_) (fun hz => absurd ((nI_eqN (x := nI (cPst no)) rfl (nI_k 0) (by have := cPst_le no; omega) (by omega)).mp hz) hc))
    have o20 := (y19 _ (by omega)).trans o11
    have b21 := b12.fr (y19 _ (by omega))
    have H22 := H13.fr (y19 _ (by omega))
    have Sv23 := Sv14.fr (y19 _ (by omega))
    have Bu24 := Bu15.fr (y19 _ (by omega))
    have Le25 := Le16.fr (y19 _ (by omega))
    have Mo26 := Mo11.fr (y19 _ (by omega))
    have Pa27 := Pa17.fr (y19 _ (by omega))
    have Y28 := Y18.tr (y19.wd (by omega) (by omega))
    refine xK_v rfl ?_
    refine xs_ret r_175_12 rfl ?_
    first
      | exact kS hc _ _ ⟨o20, g19, b21, H22, Sv23, Bu24, Le25, Mo26, Pa27⟩ Y28
      | exact kF hc _ ⟨o20, g19, b21, H22, Sv23, Bu24, Le25, Mo26, Pa27⟩ Y28
  · have b29 := b1.fr (y11 _ (by omega))
    have H30 := H4.fr (y11 _ (by omega))
    have Sv31 := Sv5.fr (y11 _ (by omega))
    have Bu32 := Bu6.fr (y11 _ (by omega))
    have Le33 := Le7.fr (y11 _ (by omega))
    have Pa34 := Pa9.fr (y11 _ (by omega))
    have Y35 := Y10.tr (y11.wd (by omega) (by omega))
    refine xK_v rfl ?_
    refine xs_call (lv2 := [(0, _), (1, _)]) r_175_9 rfl rfl (by decide) (xcan_0 rfl rfl (by first | assumption | exact o11) (by rfl)) rfl (m_156 o11 g11 b29 H30 h32 h8 (fun hz => absurd rfl hz) (fun hz f36 o36 H36 y36 => ?_))
    have g37 := g11.fr (y36 _ (by omega))
    have b38 := b29.fr (y36 _ (by omega))
    have Sv39 := Sv31.fr (y36 _ (by omega))
    have Bu40 := Bu32.fr (y36 _ (by omega))
    have Le41 := Le33.fr (y36 _ (by omega))
    have Mo42 := Mo11.fr (y36 _ (by omega))
    have Pa43 := Pa34.fr (y36 _ (by omega))
    have Y44 := Y35.tr (y36.wd (by omega) (by omega))
    refine xK_v rfl ?_
    refine xs_ret r_175_12 rfl ?_
    first
      | exact kS hc _ _ ⟨o36, g37, b38, H36, Sv39, Bu40, Le41, Mo42, Pa43⟩ Y44
      | exact kF hc _ ⟨o36, g37, b38, H36, Sv39, Bu40, Le41, Mo42, Pa43⟩ Y44

theorem m_178 {S : XSc} {d : Nat} {h : XH} {Q : XO → XH → Prop} {a : Nat} {G B H Sv Bu Le Mo Pa : Nat → Int32} {np no : Nat} {mn : Nat → Nat} {ch : Nat} {sv ty ea fa ol th sp wr : Int32} (hM : MdP h.1 a G B H Sv Bu Le Mo Pa (nI ch) sv ty ea fa ol th sp wr) (hG : WG G np no mn) (h32 : 32 ≤ a) (h8 : ch ≤ 8) {p : Int32} (kF : (cLea np (gP G) p) ≠ 0 → ∀ f, MdP f a G G H Sv Bu Le Mo Pa (nI ch) sv ty ea fa ol (nI (cLea np (gP G) p)) sp wr → Fr h.1 f a (a + 9) → Q (.inl (some (.int 0))) (f, h.2)) (kS : (cLea np (gP G) p) = 0 → ∀ i, i < np → p = nI i → ∀ f, MdP f a (xw (wdN G i mn no) (15 + i) 1) G (psh ch H G) Sv Bu Le Mo Pa (nI (min (ch + 1) 8)) sv ty ea fa ol 0 sp wr → Fr h.1 f a (a + 9) → Q (.inl (some (.int (nI (cntB (hasM G i mn) no))))) (f, h.2)) : xP S (d + 3) 178 0 [(0, .ref a), (1, .int p)] [] h Q := by
  obtain ⟨o0, g0, b0, H0, Sv0, Bu0, Le0, Mo0, Pa0⟩ := id hM
  have np5 := hG.1.2
  have no6 := hG.2.1.2
  refine xs_f 1 r_178_0 rfl ?_
  refine xs_call (lv2 := [(0, _)]) r_178_1 rfl rfl (by decide) (xcan_0 rfl rfl (by first | assumption | exact o0) (by rfl)) rfl (m_155 o0 g0 b0 h32 (fun f1 b1 y1 => ?_))
  have o2 := (y1 _ (by omega)).trans o0
  have g3 := g0.fr (y1 _ (by omega))
  have H4 := H0.fr (y1 _ (by omega))
  have Sv5 := Sv0.fr (y1 _ (by omega))
  have Bu6 := Bu0.fr (y1 _ (by omega))
  have Le7 := Le0.fr (y1 _ (by omega))
  have Mo8 := Mo0.fr (y1 _ (by omega))
  have Pa9 := Pa0.fr (y1 _ (by omega))
  have Y10 := (Fr.rf : Fr h.1 h.1 a (a + 9)).tr (y1.wd (by omega) (by omega))
  refine xK_0 rfl ?_
  refine xs_f 5 r_178_4 rfl ?_
  refine xs_f 6 r_178_5 rfl ?_
  refine xs_f 7 r_178_6 rfl ?_
  refine xs_call (lv2 := [(0, _), (1, _)]) r_178_7 rfl rfl (by decide) (xcan_0 rfl rfl (by first | assumption | exact o2) (by rfl)) rfl (m_177 o2 g3 hG h32 (fun hc f11 o11 g11 y11 => ?_) (fun hc i hi hpi f11 o11 g11 y11 => ?_))
  · have b12 := b1.fr (y11 _ (by omega))
    have H13 := H4.fr (y11 _ (by omega))
    have Sv14 := Sv5.fr (y11 _ (by omega))
    have Bu15 := Bu6.fr (y11 _ (by omega))
    have Le16 := Le7.fr (y11 _ (by omega))
    have Mo17 := Mo8.fr (y11 _ (by omega))
    have Pa18 := Pa9.fr (y11 _ (by omega))
    have Y19 := Y10.tr (y11.wd (by omega) (by omega))
    refine xK_v rfl ?_
    refine xs_call (lv2 := [(0, _), (1, _)]) r_178_10 rfl rfl (by decide) (xcan_0 rfl rfl (by first | assumption | exact o11) (by rfl)) rfl (m_156 o11 g11 b12 H13 h32 h8 (fun hz f20 g20 y20 => ?_) (fun hz => absurd ((nI_eqN (x := nI (cLea np (gP G) p)) rfl (nI_k 0) (by have := cLea_le np (gP G) p; omega) (by omega)).mp hz) hc))
    have o21 := (y20 _ (by omega)).trans o11
    have b22 := b12.fr (y20 _ (by omega))
    have H23 := H13.fr (y20 _ (by omega))
    have Sv24 := Sv14.fr (y20 _ (by omega))
    have Bu25 := Bu15.fr (y20 _ (by omega))
    have Le26 := Le16.fr (y20 _ (by omega))
    have Mo27 := Mo17.fr (y20 _ (by omega))
    have Pa28 := Pa18.fr (y20 _ (by omega))
    have Y29 := Y19.tr (y20.wd (by omega) (by omega))
    refine xK_v rfl ?_
    refine xs_ret r_178_13 rfl ?_
    first
      | exact kS hc i hi hpi _ ⟨o21, g20, b22, H23, Sv24, Bu25, Le26, Mo27, Pa28⟩ Y29
      | exact kF hc _ ⟨o21, g20, b22, H23, Sv24, Bu25, Le26, Mo27, Pa28⟩ Y29
  · have b30 := b1.fr (y11 _ (by omega))
    have H31 := H4.fr (y11 _ (by omega))
    have Sv32 := Sv5.fr (y11 _ (by omega))
    have Bu33 := Bu6.fr (y11 _ (by omega))
    have Le34 := Le7.fr (y11 _ (by omega))
    have Mo35 := Mo8.fr (y11 _ (by omega))
    have Pa36 := Pa9.fr (y11 _ (by omega))
    have Y37 := Y10.tr (y11.wd (by omega) (by omega))
    refine xK_v rfl ?_
    refine xs_call (lv2 := [(0, _), (1, _)]) r_178_10 rfl rfl (by decide) (xcan_0 rfl rfl (by first | assumption | exact o11) (by rfl)) rfl (m_156 o11 g11 b30 H31 h32 h8 (fun hz => absurd rfl hz) (fun hz f38 o38 H38 y38 => ?_))
    have g39 := g11.fr (y38 _ (by omega))
    have b40 := b30.fr (y38 _ (by omega))
    have Sv41 := Sv32.fr (y38 _ (by omega))
    have Bu42 := Bu33.fr (y38 _ (by omega))
    have Le43 := Le34.fr (y38 _ (by omega))
    have Mo44 := Mo35.fr (y38 _ (by omega))
    have Pa45 := Pa36.fr (y38 _ (by omega))
    have Y46 := Y37.tr (y38.wd (by omega) (by omega))
    refine xK_v rfl ?_
    refine xs_ret r_178_13 rfl ?_
    first
      | exact kS hc i hi hpi _ ⟨o38, g39, b40, H38, Sv41, Bu42, Le43, Mo44, Pa45⟩ Y46
      | exact kF hc _ ⟨o38, g39, b40, H38, Sv41, Bu42, Le43, Mo44, Pa45⟩ Y46

theorem m_240 {S : XSc} {d : Nat} {h : XH} {Q : XO → XH → Prop} {a : Nat} {G B H Sv Bu Le Mo Pa : Nat → Int32} {np no : Nat} {mn : Nat → Nat} {ch : Nat} {sv ty ea fa ol th sp wr : Int32} (hM : MdP h.1 a G B H Sv Bu Le Mo Pa (nI ch) sv ty ea fa ol th sp wr) (hG : WG G np no mn) (h32 : 32 ≤ a) (h8 : ch ≤ 8) (kF : ch = 0 → ∀ f, MdP f a G B H Sv Bu Le Mo Pa (nI ch) sv ty ea fa ol 1 sp wr → Fr h.1 f a (a + 9) → Q (.inl (some (.int 0))) (f, h.2)) (kS : 0 < ch → ∀ f, MdP f a (fun j => H ((ch - 1) * 288 + j)) B H Sv Bu Le Mo Pa (nI (ch - 1)) sv ty ea fa ol 0 sp wr → Fr h.1 f a (a + 9) → Q (.inl (some (.int (nI (ch - 1))))) (f, h.2)) : xP S (d + 1) 240 0 [(0, .ref a)] [] h Q := by
  obtain ⟨o0, g0, b0, H0, Sv0, Bu0, Le0, Mo0, Pa0⟩ := id hM
  have np5 := hG.1.2
  have no6 := hG.2.1.2
  refine xs_f 1 r_240_0 rfl ?_
  refine xs_get 4 r_240_1 rfl rfl (by first | assumption | exact o0) (by rfl) ?_
  refine xs_if 7 13 r_240_4 rfl (fun hc => ?_) (fun hc => ?_)
  · have hc := (nI_eqN rfl (nI_k 0) (by omega) (by omega)).mp hc
    refine xs_f 8 r_240_7 rfl ?_
    refine xs_f 9 r_240_8 rfl ?_
    refine xs_call (lv2 := [(0, _), (1, _)]) r_240_9 rfl rfl (by decide) (xcan_0 rfl rfl (by first | assumption | exact o0) (by rfl)) rfl ?_
    refine xs_f 1 r_153_0 rfl ?_
    refine xs_f 2 r_153_1 rfl ?_
    refine xs_putC 5 r_153_2 rfl o0 (by rfl) (by rfl) (fun f1 o1 y1 => ?_)
    have g2 := g0.fr (y1 _ (by omega))
    have b3 := b0.fr (y1 _ (by omega))
    have H4 := H0.fr (y1 _ (by omega))
    have Sv5 := Sv0.fr (y1 _ (by omega))
    have Bu6 := Bu0.fr (y1 _ (by omega))
    have Le7 := Le0.fr (y1 _ (by omega))
    have Mo8 := Mo0.fr (y1 _ (by omega))
    have Pa9 := Pa0.fr (y1 _ (by omega))
    have Y10 := (Fr.rf : Fr h.1 h.1 a (a + 9)).tr (y1.wd (by omega) (by omega))
    refine xs_f 6 r_153_5 rfl ?_
    refine xs_ret r_153_6 rfl ?_
    refine xK_v rfl ?_
    refine xs_ret r_240_12 rfl ?_
    first
      | exact kF (by omega) _ ⟨o1, g2, b3, H4, Sv5, Bu6, Le7, Mo8, Pa9⟩ Y10
      | exact xq_int (kS (by omega) _ ⟨o1.trans (by rw [← nI_subE (x := nI ch) (y := 1) (a := ch) (b := 1) rfl rfl (by omega)]; rfl), g2.ex (fun j hj => (if_pos ⟨Nat.zero_le _, by omega⟩).trans rfl), b3, H4, Sv5, Bu6, Le7, Mo8, Pa9⟩ Y10) (nI_subE (x := nI ch) rfl rfl (by omega))
  · have hc := mt (nI_eqN rfl (nI_k 0) (by omega) (by omega)).mpr hc
    refine xs_f 14 r_240_13 rfl ?_
    refine xs_f 15 r_240_14 rfl ?_
    refine xs_get 18 r_240_15 rfl rfl (by first | assumption | exact o0) (by rfl) ?_
    refine xs_f 19 r_240_18 rfl ?_
    refine xs_f 20 r_240_19 rfl ?_
    refine xs_putC 23 r_240_20 rfl o0 (by rfl) (by rfl) (fun f11 o11 y11 => ?_)
    have g12 := g0.fr (y11 _ (by omega))
    have b13 := b0.fr (y11 _ (by omega))
    have H14 := H0.fr (y11 _ (by omega))
    have Sv15 := Sv0.fr (y11 _ (by omega))
    have Bu16 := Bu0.fr (y11 _ (by omega))
    have Le17 := Le0.fr (y11 _ (by omega))
    have Mo18 := Mo0.fr (y11 _ (by omega))
    have Pa19 := Pa0.fr (y11 _ (by omega))
    have Y20 := (Fr.rf : Fr h.1 h.1 a (a + 9)).tr (y11.wd (by omega) (by omega))
    refine xs_f 24 r_240_23 rfl ?_
    refine xs_get 27 r_240_24 rfl rfl (by first | assumption | exact o11) (by rfl) ?_
    refine xs_f 28 r_240_27 rfl ?_
    refine xs_get 31 r_240_28 rfl rfl (by first | assumption | exact o11) (by rfl) ?_
    refine xs_f 34 r_240_31 rfl ?_
    refine xs_f 35 r_240_34 rfl ?_
    refine xs_f 36 r_240_35 rfl ?_
    refine xs_get 39 r_240_36 rfl rfl (by first | assumption | exact o11) (by rfl) ?_
    refine xs_f 40 r_240_39 rfl ?_
    refine xs_call (lv2 := [(0, _), (1, _), (2, _), (3, _)]) r_240_40 rfl rfl (by decide) (xcan_1 rfl) rfl (xP_lv [(0, .ref (a + 3)), (1, .int (nI ((ch - 1) * 288))), (2, .ref (a + 1)), (3, .int (nI 0))] rfl ⟨rfl, (congrArg (fun z => some (Value.int z)) (nI_mulE (nI_subE rfl (nI_k 1) (by omega)) (nI_k 288))), rfl, (congrArg (fun z => some (Value.int z)) (nI_k 0)), trivial⟩ (m_154 H14 g12 (u := ((ch - 1) * 288)) (w := 0) (by omega) (by omega) (by omega) (by omega) (by omega) (by omega) (by omega) (fun f21 g21 y21 => ?_)))
    have o22 := (y21 _ (by omega)).trans o11
    have b23 := b13.fr (y21 _ (by omega))
    have H24 := H14.fr (y21 _ (by omega))
    have Sv25 := Sv15.fr (y21 _ (by omega))
    have Bu26 := Bu16.fr (y21 _ (by omega))
    have Le27 := Le17.fr (y21 _ (by omega))
    have Mo28 := Mo18.fr (y21 _ (by omega))
    have Pa29 := Pa19.fr (y21 _ (by omega))
    have Y30 := Y20.tr (y21.wd (by omega) (by omega))
    refine xK_0 rfl ?_
    refine xs_f 44 r_240_43 rfl ?_
    refine xs_f 45 r_240_44 rfl ?_
    refine xs_get 48 r_240_45 rfl rfl (by first | assumption | exact o22) (by rfl) ?_
    refine xs_call (lv2 := [(0, _), (1, _)]) r_240_48 rfl rfl (by decide) (xcan_0 rfl rfl (by first | assumption | exact o22) (by rfl)) rfl ?_
    refine xs_f 1 r_152_0 rfl ?_
    refine xs_f 2 r_152_1 rfl ?_
    refine xs_putC 5 r_152_2 rfl o22 (by rfl) (by rfl) (fun f31 o31 y31 => ?_)
    have g32 := g21.fr (y31 _ (by omega))
    have b33 := b23.fr (y31 _ (by omega))
    have H34 := H24.fr (y31 _ (by omega))
    have Sv35 := Sv25.fr (y31 _ (by omega))
    have Bu36 := Bu26.fr (y31 _ (by omega))
    have Le37 := Le27.fr (y31 _ (by omega))
    have Mo38 := Mo28.fr (y31 _ (by omega))
    have Pa39 := Pa29.fr (y31 _ (by omega))
    have Y40 := Y30.tr (y31.wd (by omega) (by omega))
    refine xs_f 6 r_152_5 rfl ?_
    refine xs_ret r_152_6 rfl ?_
    refine xK_v rfl ?_
    refine xs_ret r_240_51 rfl ?_
    first
      | exact kF (by omega) _ ⟨o31, g32, b33, H34, Sv35, Bu36, Le37, Mo38, Pa39⟩ Y40
      | exact xq_int (kS (by omega) _ ⟨o31.trans (by rw [← nI_subE (x := nI ch) (y := 1) (a := ch) (b := 1) rfl rfl (by omega)]; rfl), g32.ex (fun j hj => (if_pos ⟨Nat.zero_le _, by omega⟩).trans rfl), b33, H34, Sv35, Bu36, Le37, Mo38, Pa39⟩ Y40) (nI_subE (x := nI ch) rfl rfl (by omega))

theorem m_241 {S : XSc} {d : Nat} {h : XH} {Q : XO → XH → Prop} {a : Nat} {G B H Sv Bu Le Mo Pa : Nat → Int32} {np no : Nat} {mn : Nat → Nat} {ch : Nat} {sv ty ea fa ol th sp wr : Int32} (hM : MdP h.1 a G B H Sv Bu Le Mo Pa (nI ch) sv ty ea fa ol th sp wr) (hG : WG G np no mn) (h32 : 32 ≤ a) (h8 : ch ≤ 8) (kS : True → ∀ f, MdP f a G B H G Bu Le Mo Pa (nI ch) 1 ty ea fa ol 0 sp wr → Fr h.1 f a (a + 9) → Q (.inl (some (.int (nI no)))) (f, h.2)) : xP S (d + 1) 241 0 [(0, .ref a)] [] h Q := by
  obtain ⟨o0, g0, b0, H0, Sv0, Bu0, Le0, Mo0, Pa0⟩ := id hM
  have np5 := hG.1.2
  have no6 := hG.2.1.2
  refine xs_f 1 r_241_0 rfl ?_
  refine xs_get 4 r_241_1 rfl rfl (by first | assumption | exact o0) (by rfl) ?_
  refine xs_f 5 r_241_4 rfl ?_
  refine xs_f 6 r_241_5 rfl ?_
  refine xs_get 9 r_241_6 rfl rfl (by first | assumption | exact o0) (by rfl) ?_
  refine xs_f 10 r_241_9 rfl ?_
  refine xs_call (lv2 := [(0, _), (1, _), (2, _), (3, _)]) r_241_10 rfl rfl (by decide) (xcan_1 rfl) rfl (xP_lv [(0, .ref (a + 1)), (1, .int (nI 0)), (2, .ref (a + 4)), (3, .int (nI 0))] rfl ⟨rfl, (congrArg (fun z => some (Value.int z)) (nI_k 0)), rfl, (congrArg (fun z => some (Value.int z)) (nI_k 0)), trivial⟩ (m_154 g0 Sv0 (u := 0) (w := 0) (by omega) (by omega) (by omega) (by omega) (by omega) (by omega) (by omega) (fun f1 Sv1 y1 => ?_)))
  have o2 := (y1 _ (by omega)).trans o0
  have g3 := g0.fr (y1 _ (by omega))
  have b4 := b0.fr (y1 _ (by omega))
  have H5 := H0.fr (y1 _ (by omega))
  have Bu6 := Bu0.fr (y1 _ (by omega))
  have Le7 := Le0.fr (y1 _ (by omega))
  have Mo8 := Mo0.fr (y1 _ (by omega))
  have Pa9 := Pa0.fr (y1 _ (by omega))
  have Y10 := (Fr.rf : Fr h.1 h.1 a (a + 9)).tr (y1.wd (by omega) (by omega))
  refine xK_0 rfl ?_
  refine xs_f 14 r_241_13 rfl ?_
  refine xs_f 15 r_241_14 rfl ?_
  refine xs_putC 18 r_241_15 rfl o2 (by rfl) (by rfl) (fun f11 o11 y11 => ?_)
  have g12 := g3.fr (y11 _ (by omega))
  have b13 := b4.fr (y11 _ (by omega))
  have H14 := H5.fr (y11 _ (by omega))
  have Sv15 := Sv1.fr (y11 _ (by omega))
  have Bu16 := Bu6.fr (y11 _ (by omega))
  have Le17 := Le7.fr (y11 _ (by omega))
  have Mo18 := Mo8.fr (y11 _ (by omega))
  have Pa19 := Pa9.fr (y11 _ (by omega))
  have Y20 := Y10.tr (y11.wd (by omega) (by omega))
  refine xs_f 19 r_241_18 rfl ?_
  refine xs_f 20 r_241_19 rfl ?_
  refine xs_get 23 r_241_20 rfl rfl (by first | assumption | exact o11) (by rfl) ?_
  refine xs_f 24 r_241_23 rfl ?_
  refine xs_aldI 25 r_241_24 (fun _ _ => rfl) rfl rfl rfl (j := 1) (nI_k 1) g12 (by omega) ?_
  rw [hG.2.1.1]
  refine xs_call (lv2 := [(0, _), (1, _)]) r_241_25 rfl rfl (by decide) (xcan_0 rfl rfl (by first | assumption | exact o11) (by rfl)) rfl ?_
  refine xs_f 1 r_152_0 rfl ?_
  refine xs_f 2 r_152_1 rfl ?_
  refine xs_putC 5 r_152_2 rfl o11 (by rfl) (by rfl) (fun f21 o21 y21 => ?_)
  have g22 := g12.fr (y21 _ (by omega))
  have b23 := b13.fr (y21 _ (by omega))
  have H24 := H14.fr (y21 _ (by omega))
  have Sv25 := Sv15.fr (y21 _ (by omega))
  have Bu26 := Bu16.fr (y21 _ (by omega))
  have Le27 := Le17.fr (y21 _ (by omega))
  have Mo28 := Mo18.fr (y21 _ (by omega))
  have Pa29 := Pa19.fr (y21 _ (by omega))
  have Y30 := Y20.tr (y21.wd (by omega) (by omega))
  refine xs_f 6 r_152_5 rfl ?_
  refine xs_ret r_152_6 rfl ?_
  refine xK_v rfl ?_
  refine xs_ret r_241_28 rfl ?_
  exact kS trivial _ ⟨o21, g22, b23, H24, Sv25.ex (fun j hj => cp_all hj), Bu26, Le27, Mo28, Pa29⟩ Y30

theorem m_242 {S : XSc} {d : Nat} {h : XH} {Q : XO → XH → Prop} {a : Nat} {G B H Sv Bu Le Mo Pa : Nat → Int32} {np no : Nat} {mn : Nat → Nat} {ch : Nat} {sv ty ea fa ol th sp wr : Int32} (hM : MdP h.1 a G B H Sv Bu Le Mo Pa (nI ch) sv ty ea fa ol th sp wr) (hG : WG G np no mn) (h32 : 32 ≤ a) (h8 : ch ≤ 8) {sb : Bool} (hsv : sv = bI sb) (kF : sb = false → ∀ f, MdP f a G B H Sv Bu Le Mo Pa (nI ch) sv ty ea fa ol 1 sp wr → Fr h.1 f a (a + 9) → Q (.inl (some (.int 0))) (f, h.2)) (kS : sb = true → ∀ f, MdP f a Sv B H Sv Bu Le Mo Pa 0 sv ty ea fa ol 0 sp wr → Fr h.1 f a (a + 9) → Q (.inl (some (.int (Sv 1)))) (f, h.2)) : xP S (d + 1) 242 0 [(0, .ref a)] [] h Q := by
  obtain ⟨o0, g0, b0, H0, Sv0, Bu0, Le0, Mo0, Pa0⟩ := id hM
  have np5 := hG.1.2
  have no6 := hG.2.1.2
  refine xs_f 1 r_242_0 rfl ?_
  refine xs_get 4 r_242_1 rfl rfl (by first | assumption | exact o0) (by rfl) ?_
  refine xs_if 7 13 r_242_4 rfl (fun hc => ?_) (fun hc => ?_)
  · rw [hsv] at hc
    refine xs_f 8 r_242_7 rfl ?_
    refine xs_f 9 r_242_8 rfl ?_
    refine xs_call (lv2 := [(0, _), (1, _)]) r_242_9 rfl rfl (by decide) (xcan_0 rfl rfl (by first | assumption | exact o0) (by rfl)) rfl ?_
    refine xs_f 1 r_153_0 rfl ?_
    refine xs_f 2 r_153_1 rfl ?_
    refine xs_putC 5 r_153_2 rfl o0 (by rfl) (by rfl) (fun f1 o1 y1 => ?_)
    have g2 := g0.fr (y1 _ (by omega))
    have b3 := b0.fr (y1 _ (by omega))
    have H4 := H0.fr (y1 _ (by omega))
    have Sv5 := Sv0.fr (y1 _ (by omega))
    have Bu6 := Bu0.fr (y1 _ (by omega))
    have Le7 := Le0.fr (y1 _ (by omega))
    have Mo8 := Mo0.fr (y1 _ (by omega))
    have Pa9 := Pa0.fr (y1 _ (by omega))
    have Y10 := (Fr.rf : Fr h.1 h.1 a (a + 9)).tr (y1.wd (by omega) (by omega))
    refine xs_f 6 r_153_5 rfl ?_
    refine xs_ret r_153_6 rfl ?_
    refine xK_v rfl ?_
    refine xs_ret r_242_12 rfl ?_
    first
      | exact kF ((bI_0 _).mp hc) _ ⟨o1, g2, b3, H4, Sv5, Bu6, Le7, Mo8, Pa9⟩ Y10
      | exact kS (bI_n0 hc) _ ⟨o1, g2.ex (fun j hj => cp_all hj), b3, H4, Sv5, Bu6, Le7, Mo8, Pa9⟩ Y10
  · rw [hsv] at hc
    refine xs_f 14 r_242_13 rfl ?_
    refine xs_get 17 r_242_14 rfl rfl (by first | assumption | exact o0) (by rfl) ?_
    refine xs_f 18 r_242_17 rfl ?_
    refine xs_f 19 r_242_18 rfl ?_
    refine xs_get 22 r_242_19 rfl rfl (by first | assumption | exact o0) (by rfl) ?_
    refine xs_f 23 r_242_22 rfl ?_
    refine xs_call (lv2 := [(0, _), (1, _), (2, _), (3, _)]) r_242_23 rfl rfl (by decide) (xcan_1 rfl) rfl (xP_lv [(0, .ref (a + 4)), (1, .int (nI 0)), (2, .ref (a + 1)), (3, .int (nI 0))] rfl ⟨rfl, (congrArg (fun z => some (Value.int z)) (nI_k 0)), rfl, (congrArg (fun z => some (Value.int z)) (nI_k 0)), trivial⟩ (m_154 Sv0 g0 (u := 0) (w := 0) (by omega) (by omega) (by omega) (by omega) (by omega) (by omega) (by omega) (fun f11 g11 y11 => ?_)))
    have o12 := (y11 _ (by omega)).trans o0
    have b13 := b0.fr (y11 _ (by omega))
    have H14 := H0.fr (y11 _ (by omega))
    have Sv15 := Sv0.fr (y11 _ (by omega))
    have Bu16 := Bu0.fr (y11 _ (by omega))
    have Le17 := Le0.fr (y11 _ (by omega))
    have Mo18 := Mo0.fr (y11 _ (by omega))
    have Pa19 := Pa0.fr (y11 _ (by omega))
    have Y20 := (Fr.rf : Fr h.1 h.1 a (a + 9)).tr (y11.wd (by omega) (by omega))
    refine xK_0 rfl ?_
    refine xs_f 27 r_242_26 rfl ?_
    refine xs_f 28 r_242_27 rfl ?_
    refine xs_putC 31 r_242_28 rfl o12 (by rfl) (by rfl) (fun f21 o21 y21 => ?_)
    have g22 := g11.fr (y21 _ (by omega))
    have b23 := b13.fr (y21 _ (by omega))
    have H24 := H14.fr (y21 _ (by omega))
    have Sv25 := Sv15.fr (y21 _ (by omega))
    have Bu26 := Bu16.fr (y21 _ (by omega))
    have Le27 := Le17.fr (y21 _ (by omega))
    have Mo28 := Mo18.fr (y21 _ (by omega))
    have Pa29 := Pa19.fr (y21 _ (by omega))
    have Y30 := Y20.tr (y21.wd (by omega) (by omega))
    refine xs_f 32 r_242_31 rfl ?_
    refine xs_f 33 r_242_32 rfl ?_
    refine xs_get 36 r_242_33 rfl rfl (by first | assumption | exact o21) (by rfl) ?_
    refine xs_f 37 r_242_36 rfl ?_
    refine xs_aldI 38 r_242_37 (fun _ _ => rfl) rfl rfl rfl (j := 1) (nI_k 1) g22 (by omega) ?_
    rw [cp_all (by omega)]
    refine xs_call (lv2 := [(0, _), (1, _)]) r_242_38 rfl rfl (by decide) (xcan_0 rfl rfl (by first | assumption | exact o21) (by rfl)) rfl ?_
    refine xs_f 1 r_152_0 rfl ?_
    refine xs_f 2 r_152_1 rfl ?_
    refine xs_putC 5 r_152_2 rfl o21 (by rfl) (by rfl) (fun f31 o31 y31 => ?_)
    have g32 := g22.fr (y31 _ (by omega))
    have b33 := b23.fr (y31 _ (by omega))
    have H34 := H24.fr (y31 _ (by omega))
    have Sv35 := Sv25.fr (y31 _ (by omega))
    have Bu36 := Bu26.fr (y31 _ (by omega))
    have Le37 := Le27.fr (y31 _ (by omega))
    have Mo38 := Mo28.fr (y31 _ (by omega))
    have Pa39 := Pa29.fr (y31 _ (by omega))
    have Y40 := Y30.tr (y31.wd (by omega) (by omega))
    refine xs_f 6 r_152_5 rfl ?_
    refine xs_ret r_152_6 rfl ?_
    refine xK_v rfl ?_
    refine xs_ret r_242_41 rfl ?_
    first
      | exact kF ((bI_0 _).mp hc) _ ⟨o31, g32, b33, H34, Sv35, Bu36, Le37, Mo38, Pa39⟩ Y40
      | exact kS (bI_n0 hc) _ ⟨o31, g32.ex (fun j hj => cp_all hj), b33, H34, Sv35, Bu36, Le37, Mo38, Pa39⟩ Y40

theorem xr_char {x : Int32} (h : vp_nar .char x = x) : xrI 2 [.int x] = some (some (.int x)) := if_pos h
theorem m_221 {S : XSc} {d : Nat} {h : XH} {Q : XO → XH → Prop} {a : Nat} {G B H Sv Bu Le Mo Pa : Nat → Int32} {np no : Nat} {mn : Nat → Nat} {ch : Nat} {sv ty ea fa ol th sp wr : Int32} (hM : MdP h.1 a G B H Sv Bu Le Mo Pa (nI ch) sv ty ea fa ol th sp wr) (hG : WG G np no mn) (h32 : 32 ≤ a) (h8 : ch ≤ 8) {tn : Nat} (hty : ty = nI tn) (ht : tn ≤ 60) {c : Int32} (hc : vp_nar .char c = c) (kF : tn = 60 → ∀ f, MdP f a G B H Sv Bu Le Mo Pa (nI ch) sv ty ea fa ol 1 sp wr → Fr h.1 f a (a + 9) → Q (.inl (some (.int 0))) (f, h.2)) (kS : tn < 60 → ∀ f, MdP f a G B H Sv (xw Bu tn c) Le Mo Pa (nI ch) sv (nI (tn + 1)) ea fa ol 0 sp wr → Fr h.1 f a (a + 9) → Q (.inl (some (.int (nI (tn + 1))))) (f, h.2)) : xP S (d + 1) 221 0 [(0, .ref a), (1, .int c)] [] h Q := by
  subst hty
  obtain ⟨o0, g0, b0, H0, Sv0, Bu0, Le0, Mo0, Pa0⟩ := id hM
  have np5 := hG.1.2
  have no6 := hG.2.1.2
  refine xs_f 1 r_221_0 rfl ?_
  refine xs_get 4 r_221_1 rfl rfl (by first | assumption | exact o0) (by rfl) ?_
  refine xs_f 6 r_221_4 rfl ?_
  refine xs_if 9 15 r_221_6 rfl (fun hc1 => ?_) (fun hc1 => ?_)
  · have hc1 := (nI_eqN rfl (nI_k 60) (by omega) (by omega)).mp hc1
    refine xs_f 10 r_221_9 rfl ?_
    refine xs_f 11 r_221_10 rfl ?_
    refine xs_call (lv2 := [(0, _), (1, _)]) r_221_11 rfl rfl (by decide) (xcan_0 rfl rfl (by first | assumption | exact o0) (by rfl)) rfl ?_
    refine xs_f 1 r_153_0 rfl ?_
    refine xs_f 2 r_153_1 rfl ?_
    refine xs_putC 5 r_153_2 rfl o0 (by rfl) (by rfl) (fun f1 o1 y1 => ?_)
    have g2 := g0.fr (y1 _ (by omega))
    have b3 := b0.fr (y1 _ (by omega))
    have H4 := H0.fr (y1 _ (by omega))
    have Sv5 := Sv0.fr (y1 _ (by omega))
    have Bu6 := Bu0.fr (y1 _ (by omega))
    have Le7 := Le0.fr (y1 _ (by omega))
    have Mo8 := Mo0.fr (y1 _ (by omega))
    have Pa9 := Pa0.fr (y1 _ (by omega))
    have Y10 := (Fr.rf : Fr h.1 h.1 a (a + 9)).tr (y1.wd (by omega) (by omega))
    refine xs_f 6 r_153_5 rfl ?_
    refine xs_ret r_153_6 rfl ?_
    refine xK_v rfl ?_
    refine xs_ret r_221_14 rfl ?_
    first
      | exact kF (by omega) _ ⟨o1, g2, b3, H4, Sv5, Bu6, Le7, Mo8, Pa9⟩ Y10
      | exact xq_int (kS (by omega) _ ⟨o1.trans (by rw [nI_succ]; rfl), g2, b3, H4, Sv5, Bu6, Le7, Mo8, Pa9⟩ Y10) (by rw [nI_succ])
  · have hc1 := mt (nI_eqN rfl (nI_k 60) (by omega) (by omega)).mpr hc1
    refine xs_f 16 r_221_15 rfl ?_
    refine xs_get 19 r_221_16 rfl rfl (by first | assumption | exact o0) (by rfl) ?_
    refine xs_f 20 r_221_19 rfl ?_
    refine xs_get 23 r_221_20 rfl rfl (by first | assumption | exact o0) (by rfl) ?_
    refine xs_f 24 r_221_23 rfl ?_
    refine xs_astC 25 r_221_24 (fun _ _ => rfl) rfl rfl rfl (j := tn) rfl Bu0 (by omega) hc (fun f11 Bu11 y11 => ?_)
    have o12 := (y11 _ (by omega)).trans o0
    have g13 := g0.fr (y11 _ (by omega))
    have b14 := b0.fr (y11 _ (by omega))
    have H15 := H0.fr (y11 _ (by omega))
    have Sv16 := Sv0.fr (y11 _ (by omega))
    have Le17 := Le0.fr (y11 _ (by omega))
    have Mo18 := Mo0.fr (y11 _ (by omega))
    have Pa19 := Pa0.fr (y11 _ (by omega))
    have Y20 := (Fr.rf : Fr h.1 h.1 a (a + 9)).tr (y11.wd (by omega) (by omega))
    refine xs_f 26 r_221_25 rfl ?_
    refine xs_f 27 r_221_26 rfl ?_
    refine xs_get 30 r_221_27 rfl rfl (by first | assumption | exact o12) (by rfl) ?_
    refine xs_f 31 r_221_30 rfl ?_
    refine xs_f 32 r_221_31 rfl ?_
    refine xs_putC 35 r_221_32 rfl o12 (by rfl) (by rfl) (fun f21 o21 y21 => ?_)
    have g22 := g13.fr (y21 _ (by omega))
    have b23 := b14.fr (y21 _ (by omega))
    have H24 := H15.fr (y21 _ (by omega))
    have Sv25 := Sv16.fr (y21 _ (by omega))
    have Bu26 := Bu11.fr (y21 _ (by omega))
    have Le27 := Le17.fr (y21 _ (by omega))
    have Mo28 := Mo18.fr (y21 _ (by omega))
    have Pa29 := Pa19.fr (y21 _ (by omega))
    have Y30 := Y20.tr (y21.wd (by omega) (by omega))
    refine xs_f 36 r_221_35 rfl ?_
    refine xs_f 37 r_221_36 rfl ?_
    refine xs_get 40 r_221_37 rfl rfl (by first | assumption | exact o21) (by rfl) ?_
    refine xs_call (lv2 := [(0, _), (1, _)]) r_221_40 rfl rfl (by decide) (xcan_0 rfl rfl (by first | assumption | exact o21) (by rfl)) rfl ?_
    refine xs_f 1 r_152_0 rfl ?_
    refine xs_f 2 r_152_1 rfl ?_
    refine xs_putC 5 r_152_2 rfl o21 (by rfl) (by rfl) (fun f31 o31 y31 => ?_)
    have g32 := g22.fr (y31 _ (by omega))
    have b33 := b23.fr (y31 _ (by omega))
    have H34 := H24.fr (y31 _ (by omega))
    have Sv35 := Sv25.fr (y31 _ (by omega))
    have Bu36 := Bu26.fr (y31 _ (by omega))
    have Le37 := Le27.fr (y31 _ (by omega))
    have Mo38 := Mo28.fr (y31 _ (by omega))
    have Pa39 := Pa29.fr (y31 _ (by omega))
    have Y40 := Y30.tr (y31.wd (by omega) (by omega))
    refine xs_f 6 r_152_5 rfl ?_
    refine xs_ret r_152_6 rfl ?_
    refine xK_v rfl ?_
    refine xs_ret r_221_43 rfl ?_
    first
      | exact kF (by omega) _ ⟨o31, g32, b33, H34, Sv35, Bu36, Le37, Mo38, Pa39⟩ Y40
      | exact xq_int (kS (by omega) _ ⟨o31.trans (by rw [nI_succ]; rfl), g32, b33, H34, Sv35, Bu36, Le37, Mo38, Pa39⟩ Y40) (by rw [nI_succ])

theorem m_238 {S : XSc} {d : Nat} {h : XH} {Q : XO → XH → Prop} {a : Nat} {G B H Sv Bu Le Mo Pa : Nat → Int32} {np no : Nat} {mn : Nat → Nat} {ch : Nat} {sv ty ea fa ol th sp wr : Int32} (hM : MdP h.1 a G B H Sv Bu Le Mo Pa (nI ch) sv ty ea fa ol th sp wr) (hG : WG G np no mn) (h32 : 32 ≤ a) (h8 : ch ≤ 8) {on : Nat} (hol : ol = nI on) (ho : on ≤ 100) (hLe : ∀ j, j < on → vp_nar .char (Le j) = Le j) {p : Int32} (kF : ¬ isPl on p → ∀ f, MdP f a G B H Sv Bu Le Mo Pa (nI ch) sv ty ea fa ol 1 sp wr → Fr h.1 f a (a + 9) → Q (.inl (some (.int 0))) (f, h.2)) (kS : ∀ i, i < on → p = nI i → ∀ f, MdP f a G B H Sv Bu Le Mo Pa (nI ch) sv ty ea fa ol 0 sp wr → Fr h.1 f a (a + 9) → Q (.inl (some (.int (Le i)))) (f, h.2)) : xP S (d + 1) 238 0 [(0, .ref a), (1, .int p)] [] h Q := by
  subst hol
  obtain ⟨o0, g0, b0, H0, Sv0, Bu0, Le0, Mo0, Pa0⟩ := id hM
  have np5 := hG.1.2
  have no6 := hG.2.1.2
  refine xs_f 1 r_238_0 rfl ?_
  refine xs_f 2 r_238_1 rfl ?_
  refine xs_f 3 r_238_2 rfl ?_
  refine xs_f 4 r_238_3 rfl ?_
  refine xs_get 7 r_238_4 rfl rfl (by first | assumption | exact o0) (by rfl) ?_
  refine xs_f 8 r_238_7 rfl ?_
  refine xs_f 9 r_238_8 rfl ?_
  refine xs_call (lv2 := [(0, _), (1, _), (2, _)]) r_238_9 rfl rfl (by decide) (xcan_1 rfl) rfl (m_150 (fun hb => ?_) (fun hb => ?_))
  · have hp : isPl on p := ⟨hb.1, (leP (by omega) _).mp hb.2⟩
    obtain ⟨i, hi, hpi, hcl⟩ := isPl_c hp (by omega)
    refine xK_v rfl ?_
    refine xs_f 15 r_238_12 rfl ?_
    refine xs_f 16 r_238_15 rfl ?_
    refine xs_f 20 r_238_16 rfl ?_
    refine xs_putC 23 r_238_20 rfl o0 (by rfl) (by rfl) (fun f2 o2 y2 => ?_)
    have g3 := g0.fr (y2 _ (by omega))
    have b4 := b0.fr (y2 _ (by omega))
    have H5 := H0.fr (y2 _ (by omega))
    have Sv6 := Sv0.fr (y2 _ (by omega))
    have Bu7 := Bu0.fr (y2 _ (by omega))
    have Le8 := Le0.fr (y2 _ (by omega))
    have Mo9 := Mo0.fr (y2 _ (by omega))
    have Pa10 := Pa0.fr (y2 _ (by omega))
    have Y11 := (Fr.rf : Fr h.1 h.1 a (a + 9)).tr (y2.wd (by omega) (by omega))
    refine xs_f 24 r_238_23 rfl ?_
    refine xs_get 27 r_238_24 rfl rfl (by first | assumption | exact o2) (by rfl) ?_
    refine xs_f 30 r_238_27 rfl ?_
    refine xs_f 31 r_238_30 rfl ?_
    refine xs_get 34 r_238_31 rfl rfl (by first | assumption | exact o2) (by rfl) ?_
    refine xs_f 35 r_238_34 rfl ?_
    refine xs_aldC 36 r_238_35 (fun _ _ => rfl) rfl rfl rfl (j := i) hpi Le8 (by omega) ?_
    refine xs_f 40 r_238_36 rfl ?_
    refine xs_ret r_238_40 (by first | exact xr_char (hLe i hi) | rfl) ?_
    first
      | exact kS i hi hpi _ ⟨o2, g3, b4, H5, Sv6, Bu7, Le8, Mo9, Pa10⟩ Y11
      | exact kF (fun z => hb ⟨z.1, (leP (by omega) _).mpr z.2⟩) _ ⟨o2, g3, b4, H5, Sv6, Bu7, Le8, Mo9, Pa10⟩ Y11
  · refine xK_v rfl ?_
    refine xs_f 19 r_238_12 rfl ?_
    refine xs_f 20 r_238_19 rfl ?_
    refine xs_putC 23 r_238_20 rfl o0 (by rfl) (by rfl) (fun f12 o12 y12 => ?_)
    have g13 := g0.fr (y12 _ (by omega))
    have b14 := b0.fr (y12 _ (by omega))
    have H15 := H0.fr (y12 _ (by omega))
    have Sv16 := Sv0.fr (y12 _ (by omega))
    have Bu17 := Bu0.fr (y12 _ (by omega))
    have Le18 := Le0.fr (y12 _ (by omega))
    have Mo19 := Mo0.fr (y12 _ (by omega))
    have Pa20 := Pa0.fr (y12 _ (by omega))
    have Y21 := (Fr.rf : Fr h.1 h.1 a (a + 9)).tr (y12.wd (by omega) (by omega))
    refine xs_f 24 r_238_23 rfl ?_
    refine xs_get 27 r_238_24 rfl rfl (by first | assumption | exact o12) (by rfl) ?_
    refine xs_f 39 r_238_27 rfl ?_
    refine xs_f 40 r_238_39 rfl ?_
    refine xs_ret r_238_40 (by first | exact xr_char (hLe i hi) | rfl) ?_
    first
      | exact kS i hi hpi _ ⟨o12, g13, b14, H15, Sv16, Bu17, Le18, Mo19, Pa20⟩ Y21
      | exact kF (fun z => hb ⟨z.1, (leP (by omega) _).mpr z.2⟩) _ ⟨o12, g13, b14, H15, Sv16, Bu17, Le18, Mo19, Pa20⟩ Y21

