/-! the law: what the calls that change it need -/
theorem nI_inj {a b : Nat} (h : nI a = nI b) (ha : a < 1000) (hb : b < 1000) : a = b := (nI_eq (by omega) (by omega)).mp h
theorem hit_eq {E F : Nat → XEst} {np k : Nat} (hk : k ≤ 999) : ∀ n, (∀ r, r < n → E r = F r) → (∀ r, r < n → okEst np (F r)) → hitN E (nI k) n = cntB (fun r => hitM (F r) (nI k)) n
  | 0, _, _ => rfl
  | n + 1, h, ok => by
    obtain ⟨-, ⟨l, u, e1, e2, h1, h2⟩, -⟩ := ok n (by omega)
    have ih := hit_eq hk n (fun r hr => h r (by omega)) (fun r hr => ok r (by omega))
    rw [hitN_s, cntB_s, ih, h n (by omega), (xdist_eq e1 e2 h1 h2 hk).2]
    rfl
theorem cJoin_c {np : Nat} (h5 : np ≤ 5) (h : joinF np = 5) : cJoin np = 1 := by
  unfold joinF at h
  unfold cJoin
  split at h
  · omega
  · rw [if_pos (by omega)]
theorem cAsk_c {no : Nat} {w : Int32} (h6 : no ≤ 6) : (askF no w = 3 → cAsk no w = 1) ∧ (askF no w = 5 → cAsk no w = 2) := by
  unfold askF cAsk
  by_cases z : 1 ≤ w ∧ w ≤ 3
  · rw [if_pos z, if_pos z]
    (repeat' split) <;> omega
  · rw [if_neg z, if_neg z]
    omega
theorem cSet_c {no : Nat} {t : Int32} : (settF no t = 3 → cSet no t = 1) ∧ (settF no t = 2 → cSet no t = 2) := by
  unfold settF cSet postF
  by_cases z : 0 ≤ t ∧ t ≤ 999
  · rw [if_pos z, if_pos z]
    (repeat' split) <;> omega
  · rw [if_neg z, if_neg z]
    omega
theorem cPst_c {no : Nat} (h : postF no = 2) : cPst no = 1 := by
  unfold postF at h
  unfold cPst
  split at h
  · omega
  · rw [if_pos (by omega)]
theorem cLea_c {np : Nat} {pl : Nat → XPl} {p : Int32} : (leavF np pl p = 1 → cLea np pl p = 1) ∧ (leavF np pl p = 5 → cLea np pl p = 2) := by
  unfold leavF cLea
  by_cases z : 0 ≤ p ∧ p < nI np
  · rw [if_pos z, if_pos z]
    cases (pl p.toNatClampNeg).2.2.1 <;> decide
  · rw [if_neg z, if_neg z]
    omega
theorem leavF_v {np : Nat} {pl : Nat → XPl} {p : Int32} : leavF np pl p = 0 ∨ leavF np pl p = 1 ∨ leavF np pl p = 5 := by
  unfold leavF
  split
  · cases (pl p.toNatClampNeg).2.2.1
    · exact Or.inl rfl
    · exact Or.inr (Or.inr rfl)
  · exact Or.inr (Or.inl rfl)
theorem c_nar {x : Int32} : vp_nar .char ((x.toUInt32 % 65536).toInt32) = (x.toUInt32 % 65536).toInt32 := pk_vc x
theorem m_173z {S : XSc} {d : Nat} {h : XH} {Q : XO → XH → Prop} {a : Nat} {G B H Sv Bu Le Mo Pa : Nat → Int32} {np no : Nat} {mn : Nat → Nat} {ch : Nat} {sv ty ea fa ol th sp wr : Int32} (hM : MdP h.1 a G B H Sv Bu Le Mo Pa (nI ch) sv ty ea fa ol th sp wr) (hG : WG G np no mn) (h32 : 32 ≤ a) (h8 : ch ≤ 8) (hn0 : no = 0) {t : Int32} (kF : (cSet no t) ≠ 0 → ∀ f, MdP f a G G H Sv Bu Le Mo Pa (nI ch) sv ty ea fa ol (nI (cSet no t)) sp wr → Fr h.1 f a (a + 9) → Q (.inl (some (.int 0))) (f, h.2)) : xP S (d + 4) 173 0 [(0, .ref a), (1, .int t)] [] h Q := by
  obtain ⟨o0, g0, b0, H0, Sv0, Bu0, Le0, Mo0, Pa0⟩ := id hM
  have np5 := hG.1.2
  have no6 := hG.2.1.2
  refine xs_f 1 r_173_0 rfl ?_
  refine xs_call (lv2 := [(0, _)]) r_173_1 rfl rfl (by decide) (xcan_0 rfl rfl (by first | assumption | exact o0) (by rfl)) rfl (m_155 o0 g0 b0 h32 (fun f1 b1 y1 => ?_))
  have o2 := (y1 _ (by omega)).trans o0
  have g3 := g0.fr (y1 _ (by omega))
  have H4 := H0.fr (y1 _ (by omega))
  have Sv5 := Sv0.fr (y1 _ (by omega))
  have Bu6 := Bu0.fr (y1 _ (by omega))
  have Le7 := Le0.fr (y1 _ (by omega))
  have Mo8 := Mo0.fr (y1 _ (by omega))
  have Pa9 := Pa0.fr (y1 _ (by omega))
  have Y10 := (Fr.rf : Fr h.1 h.1 a (a + 9)).tr (y1.wd (by omega) (by omega))
  refine xK_0 rfl ?_
  refine xs_f 5 r_173_4 rfl ?_
  refine xs_f 6 r_173_5 rfl ?_
  refine xs_f 7 r_173_6 rfl ?_
  refine xs_call (lv2 := [(0, _), (1, _)]) r_173_7 rfl rfl (by decide) (xcan_0 rfl rfl (by first | assumption | exact o2) (by rfl)) rfl (m_172z o2 g3 hG h32 hn0 (fun hc f11 o11 g11 y11 => ?_))
  have b12 := b1.fr (y11 _ (by omega))
  have H13 := H4.fr (y11 _ (by omega))
  have Sv14 := Sv5.fr (y11 _ (by omega))
  have Bu15 := Bu6.fr (y11 _ (by omega))
  have Le16 := Le7.fr (y11 _ (by omega))
  have Mo17 := Mo8.fr (y11 _ (by omega))
  have Pa18 := Pa9.fr (y11 _ (by omega))
  have Y19 := Y10.tr (y11.wd (by omega) (by omega))
  refine xK_v rfl ?_
  refine xs_call (lv2 := [(0, _), (1, _)]) r_173_10 rfl rfl (by decide) (xcan_0 rfl rfl (by first | assumption | exact o11) (by rfl)) rfl (m_156 o11 g11 b12 H13 h32 h8 (fun hz f20 g20 y20 => ?_) (fun hz => absurd ((nI_eqN (x := nI (cSet no t)) rfl (nI_k 0) (by have := cSet_le no t; omega) (by omega)).mp hz) hc))
  have o21 := (y20 _ (by omega)).trans o11
  have b22 := b12.fr (y20 _ (by omega))
  have H23 := H13.fr (y20 _ (by omega))
  have Sv24 := Sv14.fr (y20 _ (by omega))
  have Bu25 := Bu15.fr (y20 _ (by omega))
  have Le26 := Le16.fr (y20 _ (by omega))
  have Mo27 := Mo17.fr (y20 _ (by omega))
  have Pa28 := Pa18.fr (y20 _ (by omega))
  have Y29 := Y19.tr (y20.wd (by omega) (by omega))
  refine xK_v rfl ?_
  refine xs_ret r_173_13 rfl ?_
  exact kF hc _ ⟨o21, g20, b22, H23, Sv24, Bu25, Le26, Mo27, Pa28⟩ Y29

theorem m_173n {S : XSc} {d : Nat} {h : XH} {Q : XO → XH → Prop} {a : Nat} {G B H Sv Bu Le Mo Pa : Nat → Int32} {np no : Nat} {mn : Nat → Nat} {ch : Nat} {sv ty ea fa ol th sp wr : Int32} (hM : MdP h.1 a G B H Sv Bu Le Mo Pa (nI ch) sv ty ea fa ol th sp wr) (hG : WG G np no mn) (h32 : 32 ≤ a) (h8 : ch ≤ 8) {sc : Nat} (hsc : G 4 = nI sc) (hs : sc ≤ 100000) {t : Int32} (hok : 0 < no → okQ (gE G 0) (mn 0))  (kF : (cSet no t) ≠ 0 → ∀ f, MdP f a G G H Sv Bu Le Mo Pa (nI ch) sv ty ea fa ol (nI (cSet no t)) sp wr → Fr h.1 f a (a + 9) → Q (.inl (some (.int 0))) (f, h.2)) (kS : (cSet no t) = 0 → ∀ f, MdP f a (gSet G no (mn 0) sc t) G (psh ch H G) Sv Bu Le Mo Pa (nI (min (ch + 1) 8)) sv ty ea fa ol 0 sp wr → Fr h.1 f a (a + 9) → Q (.inl (some (.int (nI (cntB (fun r => hitM (gE G 0 r) t) (mn 0)))))) (f, h.2)) : xP S (d + 4) 173 0 [(0, .ref a), (1, .int t)] [] h Q := by
  rcases Nat.eq_zero_or_pos no with hn | hn
  · exact m_173z hM hG h32 h8 hn kF
  · exact m_173 hM hG h32 h8 hsc hs (hok hn) kF kS
