/-! the reference carries out a command -/
def GOK (G : Nat → Int32) (K : Nat) : Prop := ∃ mn np no nn N sc ho TS TH tr pl q, RG G mn np no nn sc ho tr pl q ∧ OKc np no nn N sc ho TS TH pl q ∧ N ≤ K ∧ sc ≤ K
theorem Sim.gok {f : Nat → Option XE} {b K : Nat} {G : Nat → Int32} (h : Sim f b G K) : GOK G K := by
  obtain ⟨mn, np, no, nn, N, sc, ho, TS, TH, tr, pl, q, s, R, hB, hr, hk, hN, hs⟩ := h
  exact ⟨mn, np, no, nn, N, sc, ho, TS, TH, tr, pl, q, hr, hk, hN, hs⟩
theorem GOK.up {G : Nat → Int32} {K M : Nat} (h : GOK G K) (e : K ≤ M) : GOK G M := by
  obtain ⟨mn, np, no, nn, N, sc, ho, TS, TH, tr, pl, q, hr, hk, hN, hs⟩ := h
  exact ⟨mn, np, no, nn, N, sc, ho, TS, TH, tr, pl, q, hr, hk, by omega, by omega⟩
theorem gok_0 {G : Nat → Int32} {mn : Nat → Nat} {np no : Nat} {nn : Int32} {N sc : Nat} {ho : Int32} {TS TH tr : Nat → Int32} {pl : Nat → XPl} {q : Nat → XQu} (hr : RG G mn np no nn sc ho tr pl q) (hk : OKc np no nn N sc ho TS TH pl q) {K : Nat} (hN : N ≤ K) (hs : sc ≤ K) (hK : K ≤ 1000) {x : Nat → Int32} (h0 : fltC np no pl q x 0 = 0) : GOK (gC G np no sc mn x 0) (K + 1) := by
  obtain ⟨⟨⟨-, n5⟩, ⟨-, n6⟩, gm⟩, -, -, r5, r6, -⟩ := id hr
  have h0 : joinF np = 0 := h0
  have hn : np < 5 := by
    unfold joinF at h0
    split at h0 <;> omega
  exact ⟨_, _, _, _, _, _, _, _, _, _, _, _, hr.join hn, hk.join, by omega, by omega⟩

theorem gok_1 {G : Nat → Int32} {mn : Nat → Nat} {np no : Nat} {nn : Int32} {N sc : Nat} {ho : Int32} {TS TH tr : Nat → Int32} {pl : Nat → XPl} {q : Nat → XQu} (hr : RG G mn np no nn sc ho tr pl q) (hk : OKc np no nn N sc ho TS TH pl q) {K : Nat} (hN : N ≤ K) (hs : sc ≤ K) (hK : K ≤ 1000) {x : Nat → Int32} (h0 : fltC np no pl q x 1 = 0) : GOK (gC G np no sc mn x 1) (K + 1) := by
  obtain ⟨⟨⟨-, n5⟩, ⟨-, n6⟩, gm⟩, -, -, r5, r6, -⟩ := id hr
  have h0 : askF no (x 0) = 0 := h0
  have hw : 1 ≤ x 0 ∧ x 0 ≤ 3 := by
    unfold askF at h0
    split at h0
    · assumption
    · omega
  have hn : no < 6 := by
    unfold askF at h0
    rw [if_pos hw] at h0
    split at h0 <;> omega
  exact ⟨_, _, _, _, _, _, _, _, _, _, _, _, hr.ask hn _, hk.ask (E := (q no).2.2.2) hw, by omega, by omega⟩

theorem gok_2 {G : Nat → Int32} {mn : Nat → Nat} {np no : Nat} {nn : Int32} {N sc : Nat} {ho : Int32} {TS TH tr : Nat → Int32} {pl : Nat → XPl} {q : Nat → XQu} (hr : RG G mn np no nn sc ho tr pl q) (hk : OKc np no nn N sc ho TS TH pl q) {K : Nat} (hN : N ≤ K) (hs : sc ≤ K) (hK : K ≤ 1000) {x : Nat → Int32} (h0 : fltC np no pl q x 2 = 0) : GOK (gC G np no sc mn x 2) (K + 1) := by
  obtain ⟨⟨⟨-, n5⟩, ⟨-, n6⟩, gm⟩, -, -, r5, r6, -⟩ := id hr
  have h0 : betF np no pl q (x 0) (x 1) (x 2) (x 3) (x 4) (x 5) = 0 := h0
  obtain ⟨hp, hq, hb, hr9⟩ := betF_ok h0
  obtain ⟨i, hi, hpi, hcl⟩ := isPl_c hp (by omega)
  rw [hpi] at hr9
  have hm := (hk.2.1 _ hq).room n5 hi hr9
  have ej := pla_cong r6 (x 1)
  have em : mn (pla q no (x 1)) = (q (pla q no (x 1))).2.2.1 := (r6 _ hq).2.2.1.symm
  have eg : gC G np no sc mn x 2 = gBet G i (pla q no (x 1)) (mn (pla q no (x 1))) (x 2) (x 3) (x 4) (x 5) := by
    show gBet G (x 0).toNatClampNeg _ _ _ _ _ _ = _
    rw [hcl, ← ej]
  rw [eg]
  exact ⟨_, _, _, _, _, _, _, _, _, _, _, _, hr.bet hi hq rfl (by omega) _ _ _ _, hk.bet hi hq hb hm hr9, by omega, by omega⟩

theorem gok_3 {G : Nat → Int32} {mn : Nat → Nat} {np no : Nat} {nn : Int32} {N sc : Nat} {ho : Int32} {TS TH tr : Nat → Int32} {pl : Nat → XPl} {q : Nat → XQu} (hr : RG G mn np no nn sc ho tr pl q) (hk : OKc np no nn N sc ho TS TH pl q) {K : Nat} (hN : N ≤ K) (hs : sc ≤ K) (hK : K ≤ 1000) {x : Nat → Int32} (h0 : fltC np no pl q x 3 = 0) : GOK (gC G np no sc mn x 3) (K + 1) := by
  obtain ⟨⟨⟨-, n5⟩, ⟨-, n6⟩, gm⟩, -, -, r5, r6, -⟩ := id hr
  have h0 : settF no (x 0) = 0 := h0
  have ht : 0 ≤ x 0 ∧ x 0 ≤ 999 := by
    unfold settF at h0
    split at h0
    · assumption
    · omega
  have hn : 0 < no := by
    unfold settF at h0
    rw [if_pos ht] at h0
    unfold postF at h0
    split at h0 <;> omega
  obtain ⟨k9, hk9, et⟩ := nat_of (b := 999) ht.1 ht.2 (by omega)
  have ok0 := ((hk.2.1 0 hn).cg (r6 0 hn).symm).2.2.2.1
  have eg : gC G np no sc mn x 3 = gSet G no (mn 0) sc (nI k9) := by
    show gSet G no (mn 0) sc (x 0) = _
    rw [et]
  rw [eg]
  exact ⟨_, _, _, _, _, _, _, _, _, _, _, _, hr.settle hn hk9 ok0 (TS, TH), hk.settle n5 hn hk9, by omega, by omega⟩

theorem gok_4 {G : Nat → Int32} {mn : Nat → Nat} {np no : Nat} {nn : Int32} {N sc : Nat} {ho : Int32} {TS TH tr : Nat → Int32} {pl : Nat → XPl} {q : Nat → XQu} (hr : RG G mn np no nn sc ho tr pl q) (hk : OKc np no nn N sc ho TS TH pl q) {K : Nat} (hN : N ≤ K) (hs : sc ≤ K) (hK : K ≤ 1000) {x : Nat → Int32} (h0 : fltC np no pl q x 4 = 0) : GOK (gC G np no sc mn x 4) (K + 1) := by
  obtain ⟨⟨⟨-, n5⟩, ⟨-, n6⟩, gm⟩, -, -, r5, r6, -⟩ := id hr
  have h0 : postF no = 0 := h0
  have hn : 0 < no := by
    unfold postF at h0
    split at h0 <;> omega
  exact ⟨_, _, _, _, _, _, _, _, _, _, _, _, hr.post hn, hk.post hn, by omega, by omega⟩

theorem gok_5 {G : Nat → Int32} {mn : Nat → Nat} {np no : Nat} {nn : Int32} {N sc : Nat} {ho : Int32} {TS TH tr : Nat → Int32} {pl : Nat → XPl} {q : Nat → XQu} (hr : RG G mn np no nn sc ho tr pl q) (hk : OKc np no nn N sc ho TS TH pl q) {K : Nat} (hN : N ≤ K) (hs : sc ≤ K) (hK : K ≤ 1000) {x : Nat → Int32} (h0 : fltC np no pl q x 5 = 0) : GOK (gC G np no sc mn x 5) (K + 1) := by
  obtain ⟨⟨⟨-, n5⟩, ⟨-, n6⟩, gm⟩, -, -, r5, r6, -⟩ := id hr
  have h0 : leavF np pl (x 0) = 0 := h0
  have hp : isPl np (x 0) := by
    unfold leavF at h0
    split at h0
    · assumption
    · omega
  obtain ⟨i, hi, hpi, hcl⟩ := isPl_c hp (by omega)
  have eg : gC G np no sc mn x 5 = xw (wdN G i mn no) (15 + i) 1 := by
    show xw (wdN G (x 0).toNatClampNeg mn no) (15 + (x 0).toNatClampNeg) 1 = _
    rw [hcl]
  rw [eg]
  exact ⟨_, _, _, _, _, _, _, _, _, _, _, _, hr.leave hi, hk.leave hi, by omega, by omega⟩

theorem GOK.step {G : Nat → Int32} {K : Nat} (h : GOK G K) (hK : K ≤ 1000) {x : Nat → Int32} {j : Nat} (hj : j < 6) (h0 : flG G x j = 0) : GOK (gcG G x j) (K + 1) := by
  obtain ⟨mn, np, no, nn, N, sc, ho, TS, TH, tr, pl, q, hr0, hk, hN, hs⟩ := h
  obtain ⟨hr, en, eo, es⟩ := hr0.nm (by omega)
  subst en
  subst eo
  subst es
  have ef : fltC (npG G) (noG G) pl q x j = flG G x j := fltC_cong (by have := hr.1.1.2; omega) hr.2.2.2.1 hr.2.2.2.2.1 _ _
  rw [← ef] at h0
  match j, hj, h0 with
  | 0, _, h0 => exact gok_0 hr hk hN hs hK h0
  | 1, _, h0 => exact gok_1 hr hk hN hs hK h0
  | 2, _, h0 => exact gok_2 hr hk hN hs hK h0
  | 3, _, h0 => exact gok_3 hr hk hN hs hK h0
  | 4, _, h0 => exact gok_4 hr hk hN hs hK h0
  | 5, _, h0 => exact gok_5 hr hk hN hs hK h0
  | j + 6, hj, _ => exact absurd hj (by omega)
/-- the reference's own numbers of faults -/
def cltC (np no : Nat) (pl : Nat → XPl) (q : Nat → XQu) (x : Nat → Int32) (j : Nat) : Nat := match j with
  | 0 => cJoin np
  | 1 => cAsk no (x 0)
  | 2 => betF np no pl q (x 0) (x 1) (x 2) (x 3) (x 4) (x 5)
  | 3 => cSet no (x 0)
  | 4 => cPst no
  | _ => cLea np pl (x 0)
theorem cJoin_0 {np : Nat} (h : np ≤ 5) : cJoin np = 0 ↔ joinF np = 0 := by
  unfold cJoin joinF
  (repeat' split) <;> omega
theorem cAsk_0 {no : Nat} (h : no ≤ 6) {w : Int32} : cAsk no w = 0 ↔ askF no w = 0 := by
  unfold cAsk askF
  by_cases z : 1 ≤ w ∧ w ≤ 3
  · rw [if_pos z, if_pos z]; (repeat' split) <;> omega
  · rw [if_neg z, if_neg z] <;> omega
theorem cPst_0 {no : Nat} : cPst no = 0 ↔ postF no = 0 := by
  unfold cPst postF
  (repeat' split) <;> omega
theorem cSet_0 {no : Nat} {t : Int32} : cSet no t = 0 ↔ settF no t = 0 := by
  unfold cSet settF postF
  by_cases z : 0 ≤ t ∧ t ≤ 999
  · rw [if_pos z, if_pos z]; (repeat' split) <;> omega
  · rw [if_neg z, if_neg z] <;> omega
theorem cLea_0 {np : Nat} {pl : Nat → XPl} {p : Int32} : cLea np pl p = 0 ↔ leavF np pl p = 0 := by
  unfold cLea leavF
  by_cases z : 0 ≤ p ∧ p < nI np
  · rw [if_pos z, if_pos z]; cases (pl p.toNatClampNeg).2.2.1 <;> decide
  · rw [if_neg z, if_neg z] <;> omega
theorem cltC_0 {np no : Nat} (h5 : np ≤ 5) (h6 : no ≤ 6) {pl : Nat → XPl} {q : Nat → XQu} {x : Nat → Int32} {j : Nat} : cltC np no pl q x j = 0 ↔ fltC np no pl q x j = 0 := by
  unfold cltC fltC
  split
  · exact cJoin_0 h5
  · exact cAsk_0 h6
  · exact Iff.rfl
  · exact cSet_0
  · exact cPst_0
  · rename_i j0 j1 j2 j3 j4
    split <;> first | exact absurd rfl (by assumption) | exact cLea_0
theorem Fm.to7 {f g : Nat → Option XE} {a : Nat} (h : Fm f g a) : Fm7 f g a := fun c hc => h c (by omega)
theorem m_172z {S : XSc} {d : Nat} {h : XH} {Q : XO → XH → Prop} {a : Nat} {G : Nat → Int32} {np no : Nat} {mn : Nat → Nat} {ch sv ty ea fa ol th sp wr : Int32} (o0 : h.1 a = some (.inr (9, mO a ch sv ty ea fa ol th sp wr))) (g0 : IA h.1 0 (a + 1) 288 G) (hG : WG G np no mn) (h32 : 32 ≤ a) (hn0 : no = 0) {t : Int32} (kF : (cSet no t) ≠ 0 → ∀ f, f a = some (.inr (9, mO a ch sv ty ea fa ol (nI (cSet no t)) sp wr)) → IA f 0 (a + 1) 288 G → Fm h.1 f a → Q (.inl (some (.int 0))) (f, h.2)) : xP S (d + 3) 172 0 [(0, .ref a), (1, .int t)] [] h Q := by
  have np5 := hG.1.2
  have no6 := hG.2.1.2
  refine xs_f 1 r_172_0 rfl ?_
  refine xs_f 2 r_172_1 rfl ?_
  refine xs_f 5 r_172_2 rfl ?_
  refine xs_call (lv2 := [(0, _), (1, _), (2, _)]) r_172_5 rfl rfl (by decide) (xcan_1 rfl) rfl (m_150 (fun hb => ?_) (fun hb => ?_))
  · refine xK_v rfl ?_
    refine xs_f 17 r_172_8 rfl ?_
    refine xs_f 18 r_172_17 rfl ?_
    refine xs_get 21 r_172_18 rfl rfl (by first | assumption | exact o0) (by rfl) ?_
    refine xs_f 22 r_172_21 rfl ?_
    refine xs_aldI 23 r_172_22 (fun _ _ => rfl) rfl rfl rfl (j := 1) (nI_k 1) g0 (by omega) ?_
    (repeat first | rw [xw_s] | rw [xw_n (by omega)])
    first | rw [hG.2.1.1] | skip
    refine xs_if 26 32 r_172_23 rfl (fun hn => ?_) (fun hn => ?_)
    · have hn := (nI_eqN rfl (nI_k 0) (by omega) (by omega)).mp hn
      refine xs_f 27 r_172_26 rfl ?_
      refine xs_f 28 r_172_27 rfl ?_
      refine xs_call (lv2 := [(0, _), (1, _)]) r_172_28 rfl rfl (by decide) (xcan_0 rfl rfl (by first | assumption | exact o0) (by rfl)) rfl ?_
      refine xs_f 1 r_153_0 rfl ?_
      refine xs_f 2 r_153_1 rfl ?_
      refine xs_putC 5 r_153_2 rfl o0 (by rfl) (by rfl) (fun f1 o1 y1 => ?_)
      have g2 := g0.fr (y1 _ (by omega))
      have Y3 := (Fm.rf : Fm h.1 h.1 a).w y1 (by omega)
      refine xs_f 6 r_153_5 rfl ?_
      refine xs_ret r_153_6 rfl ?_
      refine xK_v rfl ?_
      refine xs_ret r_172_31 rfl ?_
      first
        | exact mF kF (if_neg hb) (by decide) o1 g2 Y3
        | exact mF kF ((if_pos hb).trans (if_pos hn0)) (by decide) o1 g2 Y3
    · have hn := mt (nI_eqN rfl (nI_k 0) (by omega) (by omega)).mpr hn
      exact absurd hn0 hn
  · refine xK_v rfl ?_
    refine xs_f 11 r_172_8 rfl ?_
    refine xs_f 12 r_172_11 rfl ?_
    refine xs_f 13 r_172_12 rfl ?_
    refine xs_call (lv2 := [(0, _), (1, _)]) r_172_13 rfl rfl (by decide) (xcan_0 rfl rfl (by first | assumption | exact o0) (by rfl)) rfl ?_
    refine xs_f 1 r_153_0 rfl ?_
    refine xs_f 2 r_153_1 rfl ?_
    refine xs_putC 5 r_153_2 rfl o0 (by rfl) (by rfl) (fun f4 o4 y4 => ?_)
    have g5 := g0.fr (y4 _ (by omega))
    have Y6 := (Fm.rf : Fm h.1 h.1 a).w y4 (by omega)
    refine xs_f 6 r_153_5 rfl ?_
    refine xs_ret r_153_6 rfl ?_
    refine xK_v rfl ?_
    refine xs_ret r_172_16 rfl ?_
    first
      | exact mF kF (if_neg hb) (by decide) o4 g5 Y6
      | exact mF kF ((if_pos hb).trans (if_pos hn0)) (by decide) o4 g5 Y6

theorem m_230_0 {S : XSc} {d : Nat} {h : XH} {Q : XO → XH → Prop} {a b : Nat} {ch sv ty ea fa ol th sp wr : Int32} {Mo Pa : Nat → Int32} {G : Nat → Int32} {mn : Nat → Nat} {np no : Nat} {nn : Int32} {N sc : Nat} {ho : Int32} {TS TH tr : Nat → Int32} {pl : Nat → XPl} {q : Nat → XQu} (hr : RG G mn np no nn sc ho tr pl q) (hk : OKc np no nn N sc ho TS TH pl q) (hs : sc ≤ 2000) (o0 : h.1 a = some (.inr (9, mO a ch sv ty ea fa ol th sp wr))) (g0 : IA h.1 0 (a + 1) 288 G) (m0 : IA h.1 0 (a + 7) 28 Mo) (p0 : IA h.1 0 (a + 8) 420 Pa) (h32 : 32 ≤ a) (hb : b + 7 ≤ 420) (hl : Pa b = 112) (kF : (cltC np no (gP G) (gQ G mn) (fun t => Pa (b + 1 + t)) 0) ≠ 0 → ∀ f, f a = some (.inr (9, mO a ch sv ty ea fa ol (nI (cltC np no (gP G) (gQ G mn) (fun t => Pa (b + 1 + t)) 0)) sp wr)) → IA f 0 (a + 1) 288 G → (∃ Mo, IA f 0 (a + 7) 28 Mo) → Fm7 h.1 f a → Q (.inl (some (.int 0))) (f, h.2)) (kS : (cltC np no (gP G) (gQ G mn) (fun t => Pa (b + 1 + t)) 0) = 0 → ∀ f v, f a = some (.inr (9, mO a ch sv ty ea fa ol 0 sp wr)) → IA f 0 (a + 1) 288 (gC G np no sc mn (fun t => Pa (b + 1 + t)) 0) → (∃ Mo, IA f 0 (a + 7) 28 Mo) → Fm7 h.1 f a → Q (.inl (some (.int v))) (f, h.2)) : xP S (d + 4) 230 0 [(0, .ref a), (1, .int (nI b))] [] h Q := by
  obtain ⟨hG, ⟨e2, e3, e4⟩, -, r5, r6, -⟩ := id hr
  have n5 := hG.1.2
  have n6 := hG.2.1.2
  
  refine xs_f 1 r_230_0 rfl ?_
  refine xs_get 4 r_230_1 rfl rfl (by first | assumption | exact xup_s | exact o0 | (refine (xup_n (by omega)).trans ?_; first | assumption | exact xup_s | exact o0) | (refine (xup_n (by omega)).trans ((xup_n (by omega)).trans ?_); first | assumption | exact xup_s | exact o0) | (refine (xup_n (by omega)).trans ((xup_n (by omega)).trans ((xup_n (by omega)).trans ?_)); first | assumption | exact xup_s | exact o0)) (by rfl) ?_
  refine xs_f 5 r_230_4 rfl ?_
  refine xs_f 6 r_230_5 rfl ?_
  refine xs_f 7 r_230_6 rfl ?_
  refine xs_aldI 8 r_230_7 (fun _ _ => rfl) rfl rfl rfl (j := (b + 1)) (nI_addE rfl (nI_k 1)) p0 (by omega) ?_
  refine xs_f 9 (lv2 := [(2, _), (0, _), (1, _)]) r_230_8 rfl ?_
  refine xs_f 10 r_230_9 rfl ?_
  refine xs_get 13 r_230_10 rfl rfl (by first | assumption | exact xup_s | exact o0 | (refine (xup_n (by omega)).trans ?_; first | assumption | exact xup_s | exact o0) | (refine (xup_n (by omega)).trans ((xup_n (by omega)).trans ?_); first | assumption | exact xup_s | exact o0) | (refine (xup_n (by omega)).trans ((xup_n (by omega)).trans ((xup_n (by omega)).trans ?_)); first | assumption | exact xup_s | exact o0)) (by rfl) ?_
  refine xs_f 14 r_230_13 rfl ?_
  refine xs_aldI 15 r_230_14 (fun _ _ => rfl) rfl rfl rfl (j := b) rfl p0 (by omega) ?_
  refine xs_f 64 r_230_15 (by rw [hl]; rfl) ?_
  refine xs_f 65 r_230_64 rfl ?_
  refine xs_call (lv2 := [(0, _)]) r_230_65 rfl rfl (by decide) (xcan_0 rfl rfl (by first | assumption | exact xup_s | exact o0 | (refine (xup_n (by omega)).trans ?_; first | assumption | exact xup_s | exact o0) | (refine (xup_n (by omega)).trans ((xup_n (by omega)).trans ?_); first | assumption | exact xup_s | exact o0) | (refine (xup_n (by omega)).trans ((xup_n (by omega)).trans ((xup_n (by omega)).trans ?_)); first | assumption | exact xup_s | exact o0)) (by rfl)) rfl (m_161 o0 g0 hG h32 (fun hc f1 o1 g1 y1 => ?_) (fun hc f1 o1 g1 y1 => ?_))
  · refine xK_v rfl ?_
    refine xs_ret r_230_68 rfl ?_
    first
      | exact kF hc f1 o1 g1 ⟨_, m0.fr (y1 _ (by omega))⟩ y1.to7
      | exact kS hc f1 _ o1 (by first | exact g1 | (rw [eg]; exact g1)) ⟨_, m0.fr (y1 _ (by omega))⟩ y1.to7
  · refine xK_v rfl ?_
    refine xs_ret r_230_68 rfl ?_
    first
      | exact kF hc f1 o1 g1 ⟨_, m0.fr (y1 _ (by omega))⟩ y1.to7
      | exact kS hc f1 _ o1 (by first | exact g1 | (rw [eg]; exact g1)) ⟨_, m0.fr (y1 _ (by omega))⟩ y1.to7

theorem m_230_1 {S : XSc} {d : Nat} {h : XH} {Q : XO → XH → Prop} {a b : Nat} {ch sv ty ea fa ol th sp wr : Int32} {Mo Pa : Nat → Int32} {G : Nat → Int32} {mn : Nat → Nat} {np no : Nat} {nn : Int32} {N sc : Nat} {ho : Int32} {TS TH tr : Nat → Int32} {pl : Nat → XPl} {q : Nat → XQu} (hr : RG G mn np no nn sc ho tr pl q) (hk : OKc np no nn N sc ho TS TH pl q) (hs : sc ≤ 2000) (o0 : h.1 a = some (.inr (9, mO a ch sv ty ea fa ol th sp wr))) (g0 : IA h.1 0 (a + 1) 288 G) (m0 : IA h.1 0 (a + 7) 28 Mo) (p0 : IA h.1 0 (a + 8) 420 Pa) (h32 : 32 ≤ a) (hb : b + 7 ≤ 420) (hl : Pa b = 111) (kF : (cltC np no (gP G) (gQ G mn) (fun t => Pa (b + 1 + t)) 1) ≠ 0 → ∀ f, f a = some (.inr (9, mO a ch sv ty ea fa ol (nI (cltC np no (gP G) (gQ G mn) (fun t => Pa (b + 1 + t)) 1)) sp wr)) → IA f 0 (a + 1) 288 G → (∃ Mo, IA f 0 (a + 7) 28 Mo) → Fm7 h.1 f a → Q (.inl (some (.int 0))) (f, h.2)) (kS : (cltC np no (gP G) (gQ G mn) (fun t => Pa (b + 1 + t)) 1) = 0 → ∀ f v, f a = some (.inr (9, mO a ch sv ty ea fa ol 0 sp wr)) → IA f 0 (a + 1) 288 (gC G np no sc mn (fun t => Pa (b + 1 + t)) 1) → (∃ Mo, IA f 0 (a + 7) 28 Mo) → Fm7 h.1 f a → Q (.inl (some (.int v))) (f, h.2)) : xP S (d + 4) 230 0 [(0, .ref a), (1, .int (nI b))] [] h Q := by
  obtain ⟨hG, ⟨e2, e3, e4⟩, -, r5, r6, -⟩ := id hr
  have n5 := hG.1.2
  have n6 := hG.2.1.2
  
  refine xs_f 1 r_230_0 rfl ?_
  refine xs_get 4 r_230_1 rfl rfl (by first | assumption | exact xup_s | exact o0 | (refine (xup_n (by omega)).trans ?_; first | assumption | exact xup_s | exact o0) | (refine (xup_n (by omega)).trans ((xup_n (by omega)).trans ?_); first | assumption | exact xup_s | exact o0) | (refine (xup_n (by omega)).trans ((xup_n (by omega)).trans ((xup_n (by omega)).trans ?_)); first | assumption | exact xup_s | exact o0)) (by rfl) ?_
  refine xs_f 5 r_230_4 rfl ?_
  refine xs_f 6 r_230_5 rfl ?_
  refine xs_f 7 r_230_6 rfl ?_
  refine xs_aldI 8 r_230_7 (fun _ _ => rfl) rfl rfl rfl (j := (b + 1)) (nI_addE rfl (nI_k 1)) p0 (by omega) ?_
  refine xs_f 9 (lv2 := [(2, _), (0, _), (1, _)]) r_230_8 rfl ?_
  refine xs_f 10 r_230_9 rfl ?_
  refine xs_get 13 r_230_10 rfl rfl (by first | assumption | exact xup_s | exact o0 | (refine (xup_n (by omega)).trans ?_; first | assumption | exact xup_s | exact o0) | (refine (xup_n (by omega)).trans ((xup_n (by omega)).trans ?_); first | assumption | exact xup_s | exact o0) | (refine (xup_n (by omega)).trans ((xup_n (by omega)).trans ((xup_n (by omega)).trans ?_)); first | assumption | exact xup_s | exact o0)) (by rfl) ?_
  refine xs_f 14 r_230_13 rfl ?_
  refine xs_aldI 15 r_230_14 (fun _ _ => rfl) rfl rfl rfl (j := b) rfl p0 (by omega) ?_
  refine xs_f 69 r_230_15 (by rw [hl]; rfl) ?_
  refine xs_f 70 r_230_69 rfl ?_
  refine xs_f 71 r_230_70 rfl ?_
  refine xs_call (lv2 := [(0, _), (1, _)]) r_230_71 rfl rfl (by decide) (xcan_0 rfl rfl (by first | assumption | exact xup_s | exact o0 | (refine (xup_n (by omega)).trans ?_; first | assumption | exact xup_s | exact o0) | (refine (xup_n (by omega)).trans ((xup_n (by omega)).trans ?_); first | assumption | exact xup_s | exact o0) | (refine (xup_n (by omega)).trans ((xup_n (by omega)).trans ((xup_n (by omega)).trans ?_)); first | assumption | exact xup_s | exact o0)) (by rfl)) rfl (m_163 o0 g0 hG h32 (fun hc f1 o1 g1 y1 => ?_) (fun hc f1 o1 g1 y1 => ?_))
  · refine xK_v rfl ?_
    refine xs_ret r_230_74 rfl ?_
    first
      | exact kF hc f1 o1 g1 ⟨_, m0.fr (y1 _ (by omega))⟩ y1.to7
      | exact kS hc f1 _ o1 (by first | exact g1 | (rw [eg]; exact g1)) ⟨_, m0.fr (y1 _ (by omega))⟩ y1.to7
  · refine xK_v rfl ?_
    refine xs_ret r_230_74 rfl ?_
    first
      | exact kF hc f1 o1 g1 ⟨_, m0.fr (y1 _ (by omega))⟩ y1.to7
      | exact kS hc f1 _ o1 (by first | exact g1 | (rw [eg]; exact g1)) ⟨_, m0.fr (y1 _ (by omega))⟩ y1.to7

theorem m_230_2 {S : XSc} {d : Nat} {h : XH} {Q : XO → XH → Prop} {a b : Nat} {ch sv ty ea fa ol th sp wr : Int32} {Mo Pa : Nat → Int32} {G : Nat → Int32} {mn : Nat → Nat} {np no : Nat} {nn : Int32} {N sc : Nat} {ho : Int32} {TS TH tr : Nat → Int32} {pl : Nat → XPl} {q : Nat → XQu} (hr : RG G mn np no nn sc ho tr pl q) (hk : OKc np no nn N sc ho TS TH pl q) (hs : sc ≤ 2000) (o0 : h.1 a = some (.inr (9, mO a ch sv ty ea fa ol th sp wr))) (g0 : IA h.1 0 (a + 1) 288 G) (m0 : IA h.1 0 (a + 7) 28 Mo) (p0 : IA h.1 0 (a + 8) 420 Pa) (h32 : 32 ≤ a) (hb : b + 7 ≤ 420) (hl : Pa b = 98) (kF : (cltC np no (gP G) (gQ G mn) (fun t => Pa (b + 1 + t)) 2) ≠ 0 → ∀ f, f a = some (.inr (9, mO a ch sv ty ea fa ol (nI (cltC np no (gP G) (gQ G mn) (fun t => Pa (b + 1 + t)) 2)) sp wr)) → IA f 0 (a + 1) 288 G → (∃ Mo, IA f 0 (a + 7) 28 Mo) → Fm7 h.1 f a → Q (.inl (some (.int 0))) (f, h.2)) (kS : (cltC np no (gP G) (gQ G mn) (fun t => Pa (b + 1 + t)) 2) = 0 → ∀ f v, f a = some (.inr (9, mO a ch sv ty ea fa ol 0 sp wr)) → IA f 0 (a + 1) 288 (gC G np no sc mn (fun t => Pa (b + 1 + t)) 2) → (∃ Mo, IA f 0 (a + 7) 28 Mo) → Fm7 h.1 f a → Q (.inl (some (.int v))) (f, h.2)) : xP S (d + 4) 230 0 [(0, .ref a), (1, .int (nI b))] [] h Q := by
  obtain ⟨hG, ⟨e2, e3, e4⟩, -, r5, r6, -⟩ := id hr
  have n5 := hG.1.2
  have n6 := hG.2.1.2
  have hrm : ∀ i j, i < np → j < no → rnk (gE G j) (mn j) (nI i) = mn j → mn j < 5 := fun i j hi hj hh => ((hk.2.1 j hj).cg (r6 j hj).symm).room n5 hi hh
  
  refine xs_f 1 r_230_0 rfl ?_
  refine xs_get 4 r_230_1 rfl rfl (by first | assumption | exact xup_s | exact o0 | (refine (xup_n (by omega)).trans ?_; first | assumption | exact xup_s | exact o0) | (refine (xup_n (by omega)).trans ((xup_n (by omega)).trans ?_); first | assumption | exact xup_s | exact o0) | (refine (xup_n (by omega)).trans ((xup_n (by omega)).trans ((xup_n (by omega)).trans ?_)); first | assumption | exact xup_s | exact o0)) (by rfl) ?_
  refine xs_f 5 r_230_4 rfl ?_
  refine xs_f 6 r_230_5 rfl ?_
  refine xs_f 7 r_230_6 rfl ?_
  refine xs_aldI 8 r_230_7 (fun _ _ => rfl) rfl rfl rfl (j := (b + 1)) (nI_addE rfl (nI_k 1)) p0 (by omega) ?_
  refine xs_f 9 (lv2 := [(2, _), (0, _), (1, _)]) r_230_8 rfl ?_
  refine xs_f 10 r_230_9 rfl ?_
  refine xs_get 13 r_230_10 rfl rfl (by first | assumption | exact xup_s | exact o0 | (refine (xup_n (by omega)).trans ?_; first | assumption | exact xup_s | exact o0) | (refine (xup_n (by omega)).trans ((xup_n (by omega)).trans ?_); first | assumption | exact xup_s | exact o0) | (refine (xup_n (by omega)).trans ((xup_n (by omega)).trans ((xup_n (by omega)).trans ?_)); first | assumption | exact xup_s | exact o0)) (by rfl) ?_
  refine xs_f 14 r_230_13 rfl ?_
  refine xs_aldI 15 r_230_14 (fun _ _ => rfl) rfl rfl rfl (j := b) rfl p0 (by omega) ?_
  refine xs_f 75 r_230_15 (by rw [hl]; rfl) ?_
  refine xs_f 76 r_230_75 rfl ?_
  refine xs_f 77 r_230_76 rfl ?_
  refine xs_f 78 r_230_77 rfl ?_
  refine xs_get 81 r_230_78 rfl rfl (by first | assumption | exact xup_s | exact o0 | (refine (xup_n (by omega)).trans ?_; first | assumption | exact xup_s | exact o0) | (refine (xup_n (by omega)).trans ((xup_n (by omega)).trans ?_); first | assumption | exact xup_s | exact o0) | (refine (xup_n (by omega)).trans ((xup_n (by omega)).trans ((xup_n (by omega)).trans ?_)); first | assumption | exact xup_s | exact o0)) (by rfl) ?_
  refine xs_f 82 r_230_81 rfl ?_
  refine xs_f 83 r_230_82 rfl ?_
  refine xs_f 84 r_230_83 rfl ?_
  refine xs_aldI 85 r_230_84 (fun _ _ => rfl) rfl rfl rfl (j := (b + 2)) (nI_addE rfl (nI_k 2)) p0 (by omega) ?_
  refine xs_f 86 r_230_85 rfl ?_
  refine xs_get 89 r_230_86 rfl rfl (by first | assumption | exact xup_s | exact o0 | (refine (xup_n (by omega)).trans ?_; first | assumption | exact xup_s | exact o0) | (refine (xup_n (by omega)).trans ((xup_n (by omega)).trans ?_); first | assumption | exact xup_s | exact o0) | (refine (xup_n (by omega)).trans ((xup_n (by omega)).trans ((xup_n (by omega)).trans ?_)); first | assumption | exact xup_s | exact o0)) (by rfl) ?_
  refine xs_f 90 r_230_89 rfl ?_
  refine xs_f 91 r_230_90 rfl ?_
  refine xs_f 92 r_230_91 rfl ?_
  refine xs_aldI 93 r_230_92 (fun _ _ => rfl) rfl rfl rfl (j := (b + 3)) (nI_addE rfl (nI_k 3)) p0 (by omega) ?_
  refine xs_f 94 r_230_93 rfl ?_
  refine xs_get 97 r_230_94 rfl rfl (by first | assumption | exact xup_s | exact o0 | (refine (xup_n (by omega)).trans ?_; first | assumption | exact xup_s | exact o0) | (refine (xup_n (by omega)).trans ((xup_n (by omega)).trans ?_); first | assumption | exact xup_s | exact o0) | (refine (xup_n (by omega)).trans ((xup_n (by omega)).trans ((xup_n (by omega)).trans ?_)); first | assumption | exact xup_s | exact o0)) (by rfl) ?_
  refine xs_f 98 r_230_97 rfl ?_
  refine xs_f 99 r_230_98 rfl ?_
  refine xs_f 100 r_230_99 rfl ?_
  refine xs_aldI 101 r_230_100 (fun _ _ => rfl) rfl rfl rfl (j := (b + 4)) (nI_addE rfl (nI_k 4)) p0 (by omega) ?_
  refine xs_f 102 r_230_101 rfl ?_
  refine xs_get 105 r_230_102 rfl rfl (by first | assumption | exact xup_s | exact o0 | (refine (xup_n (by omega)).trans ?_; first | assumption | exact xup_s | exact o0) | (refine (xup_n (by omega)).trans ((xup_n (by omega)).trans ?_); first | assumption | exact xup_s | exact o0) | (refine (xup_n (by omega)).trans ((xup_n (by omega)).trans ((xup_n (by omega)).trans ?_)); first | assumption | exact xup_s | exact o0)) (by rfl) ?_
  refine xs_f 106 r_230_105 rfl ?_
  refine xs_f 107 r_230_106 rfl ?_
  refine xs_f 108 r_230_107 rfl ?_
  refine xs_aldI 109 r_230_108 (fun _ _ => rfl) rfl rfl rfl (j := (b + 5)) (nI_addE rfl (nI_k 5)) p0 (by omega) ?_
  refine xs_f 110 r_230_109 rfl ?_
  refine xs_get 113 r_230_110 rfl rfl (by first | assumption | exact xup_s | exact o0 | (refine (xup_n (by omega)).trans ?_; first | assumption | exact xup_s | exact o0) | (refine (xup_n (by omega)).trans ((xup_n (by omega)).trans ?_); first | assumption | exact xup_s | exact o0) | (refine (xup_n (by omega)).trans ((xup_n (by omega)).trans ((xup_n (by omega)).trans ?_)); first | assumption | exact xup_s | exact o0)) (by rfl) ?_
  refine xs_f 114 r_230_113 rfl ?_
  refine xs_f 116 r_230_114 rfl ?_
  refine xs_f 117 r_230_116 rfl ?_
  refine xs_aldI 118 r_230_117 (fun _ _ => rfl) rfl rfl rfl (j := (b + 6)) (nI_addE rfl (nI_k 6)) p0 (by omega) ?_
  refine xs_call (lv2 := [(0, _), (1, _), (2, _), (3, _), (4, _), (5, _), (6, _)]) r_230_118 rfl rfl (by decide) (xcan_0 rfl rfl (by first | assumption | exact xup_s | exact o0 | (refine (xup_n (by omega)).trans ?_; first | assumption | exact xup_s | exact o0) | (refine (xup_n (by omega)).trans ((xup_n (by omega)).trans ?_); first | assumption | exact xup_s | exact o0) | (refine (xup_n (by omega)).trans ((xup_n (by omega)).trans ((xup_n (by omega)).trans ?_)); first | assumption | exact xup_s | exact o0)) (by rfl)) rfl (m_166 o0 g0 hG h32 hrm (fun hc f1 o1 g1 y1 => ?_) (fun hc i hi hpi hq hm4 f1 o1 g1 y1 => ?_))
  · refine xK_v rfl ?_
    refine xs_ret r_230_121 rfl ?_
    first
      | exact kF hc f1 o1 g1 ⟨_, m0.fr (y1 _ (by omega))⟩ y1.to7
      | exact kS hc f1 _ o1 (by first | exact g1 | (rw [eg]; exact g1)) ⟨_, m0.fr (y1 _ (by omega))⟩ y1.to7
  · have eg : gC G np no sc mn (fun t => Pa (b + 1 + t)) 2 = gBet G i (pla (gQ G mn) no (Pa (b + 1 + 1))) (mn (pla (gQ G mn) no (Pa (b + 1 + 1)))) (Pa (b + 1 + 2)) (Pa (b + 1 + 3)) (Pa (b + 1 + 4)) (Pa (b + 1 + 5)) := by
      show gBet G (Pa (b + 1 + 0)).toNatClampNeg _ _ _ _ _ _ = _
      rw [show Pa (b + 1 + 0) = nI i from hpi, nI_clamp (by omega)]
    refine xK_v rfl ?_
    refine xs_ret r_230_121 rfl ?_
    first
      | exact kF hc f1 o1 g1 ⟨_, m0.fr (y1 _ (by omega))⟩ y1.to7
      | exact kS hc f1 _ o1 (by first | exact g1 | (rw [eg]; exact g1)) ⟨_, m0.fr (y1 _ (by omega))⟩ y1.to7

theorem m_230_4 {S : XSc} {d : Nat} {h : XH} {Q : XO → XH → Prop} {a b : Nat} {ch sv ty ea fa ol th sp wr : Int32} {Mo Pa : Nat → Int32} {G : Nat → Int32} {mn : Nat → Nat} {np no : Nat} {nn : Int32} {N sc : Nat} {ho : Int32} {TS TH tr : Nat → Int32} {pl : Nat → XPl} {q : Nat → XQu} (hr : RG G mn np no nn sc ho tr pl q) (hk : OKc np no nn N sc ho TS TH pl q) (hs : sc ≤ 2000) (o0 : h.1 a = some (.inr (9, mO a ch sv ty ea fa ol th sp wr))) (g0 : IA h.1 0 (a + 1) 288 G) (m0 : IA h.1 0 (a + 7) 28 Mo) (p0 : IA h.1 0 (a + 8) 420 Pa) (h32 : 32 ≤ a) (hb : b + 7 ≤ 420) (hl : Pa b = 108) (kF : (cltC np no (gP G) (gQ G mn) (fun t => Pa (b + 1 + t)) 4) ≠ 0 → ∀ f, f a = some (.inr (9, mO a ch sv ty ea fa ol (nI (cltC np no (gP G) (gQ G mn) (fun t => Pa (b + 1 + t)) 4)) sp wr)) → IA f 0 (a + 1) 288 G → (∃ Mo, IA f 0 (a + 7) 28 Mo) → Fm7 h.1 f a → Q (.inl (some (.int 0))) (f, h.2)) (kS : (cltC np no (gP G) (gQ G mn) (fun t => Pa (b + 1 + t)) 4) = 0 → ∀ f v, f a = some (.inr (9, mO a ch sv ty ea fa ol 0 sp wr)) → IA f 0 (a + 1) 288 (gC G np no sc mn (fun t => Pa (b + 1 + t)) 4) → (∃ Mo, IA f 0 (a + 7) 28 Mo) → Fm7 h.1 f a → Q (.inl (some (.int v))) (f, h.2)) : xP S (d + 4) 230 0 [(0, .ref a), (1, .int (nI b))] [] h Q := by
  obtain ⟨hG, ⟨e2, e3, e4⟩, -, r5, r6, -⟩ := id hr
  have n5 := hG.1.2
  have n6 := hG.2.1.2
  
  refine xs_f 1 r_230_0 rfl ?_
  refine xs_get 4 r_230_1 rfl rfl (by first | assumption | exact xup_s | exact o0 | (refine (xup_n (by omega)).trans ?_; first | assumption | exact xup_s | exact o0) | (refine (xup_n (by omega)).trans ((xup_n (by omega)).trans ?_); first | assumption | exact xup_s | exact o0) | (refine (xup_n (by omega)).trans ((xup_n (by omega)).trans ((xup_n (by omega)).trans ?_)); first | assumption | exact xup_s | exact o0)) (by rfl) ?_
  refine xs_f 5 r_230_4 rfl ?_
  refine xs_f 6 r_230_5 rfl ?_
  refine xs_f 7 r_230_6 rfl ?_
  refine xs_aldI 8 r_230_7 (fun _ _ => rfl) rfl rfl rfl (j := (b + 1)) (nI_addE rfl (nI_k 1)) p0 (by omega) ?_
  refine xs_f 9 (lv2 := [(2, _), (0, _), (1, _)]) r_230_8 rfl ?_
  refine xs_f 10 r_230_9 rfl ?_
  refine xs_get 13 r_230_10 rfl rfl (by first | assumption | exact xup_s | exact o0 | (refine (xup_n (by omega)).trans ?_; first | assumption | exact xup_s | exact o0) | (refine (xup_n (by omega)).trans ((xup_n (by omega)).trans ?_); first | assumption | exact xup_s | exact o0) | (refine (xup_n (by omega)).trans ((xup_n (by omega)).trans ((xup_n (by omega)).trans ?_)); first | assumption | exact xup_s | exact o0)) (by rfl) ?_
  refine xs_f 14 r_230_13 rfl ?_
  refine xs_aldI 15 r_230_14 (fun _ _ => rfl) rfl rfl rfl (j := b) rfl p0 (by omega) ?_
  refine xs_f 128 r_230_15 (by rw [hl]; rfl) ?_
  refine xs_f 129 r_230_128 rfl ?_
  refine xs_call (lv2 := [(0, _)]) r_230_129 rfl rfl (by decide) (xcan_0 rfl rfl (by first | assumption | exact xup_s | exact o0 | (refine (xup_n (by omega)).trans ?_; first | assumption | exact xup_s | exact o0) | (refine (xup_n (by omega)).trans ((xup_n (by omega)).trans ?_); first | assumption | exact xup_s | exact o0) | (refine (xup_n (by omega)).trans ((xup_n (by omega)).trans ((xup_n (by omega)).trans ?_)); first | assumption | exact xup_s | exact o0)) (by rfl)) rfl (m_174 o0 g0 hG h32 m0 (fun hc f1 o1 g1 m1 y1 => ?_) (fun hc f1 Mo1 o1 g1 m1 y1 => ?_))
  · refine xK_v rfl ?_
    refine xs_ret r_230_132 rfl ?_
    first
      | exact kF hc f1 o1 g1 ⟨_, m1⟩ y1
      | exact kS hc f1 _ o1 g1 ⟨_, m1⟩ y1
  · refine xK_v rfl ?_
    refine xs_ret r_230_132 rfl ?_
    first
      | exact kF hc f1 o1 g1 ⟨_, m1⟩ y1
      | exact kS hc f1 _ o1 g1 ⟨_, m1⟩ y1

theorem m_230_5 {S : XSc} {d : Nat} {h : XH} {Q : XO → XH → Prop} {a b : Nat} {ch sv ty ea fa ol th sp wr : Int32} {Mo Pa : Nat → Int32} {G : Nat → Int32} {mn : Nat → Nat} {np no : Nat} {nn : Int32} {N sc : Nat} {ho : Int32} {TS TH tr : Nat → Int32} {pl : Nat → XPl} {q : Nat → XQu} (hr : RG G mn np no nn sc ho tr pl q) (hk : OKc np no nn N sc ho TS TH pl q) (hs : sc ≤ 2000) (o0 : h.1 a = some (.inr (9, mO a ch sv ty ea fa ol th sp wr))) (g0 : IA h.1 0 (a + 1) 288 G) (m0 : IA h.1 0 (a + 7) 28 Mo) (p0 : IA h.1 0 (a + 8) 420 Pa) (h32 : 32 ≤ a) (hb : b + 7 ≤ 420) (hl : Pa b = 117) (kF : (cltC np no (gP G) (gQ G mn) (fun t => Pa (b + 1 + t)) 5) ≠ 0 → ∀ f, f a = some (.inr (9, mO a ch sv ty ea fa ol (nI (cltC np no (gP G) (gQ G mn) (fun t => Pa (b + 1 + t)) 5)) sp wr)) → IA f 0 (a + 1) 288 G → (∃ Mo, IA f 0 (a + 7) 28 Mo) → Fm7 h.1 f a → Q (.inl (some (.int 0))) (f, h.2)) (kS : (cltC np no (gP G) (gQ G mn) (fun t => Pa (b + 1 + t)) 5) = 0 → ∀ f v, f a = some (.inr (9, mO a ch sv ty ea fa ol 0 sp wr)) → IA f 0 (a + 1) 288 (gC G np no sc mn (fun t => Pa (b + 1 + t)) 5) → (∃ Mo, IA f 0 (a + 7) 28 Mo) → Fm7 h.1 f a → Q (.inl (some (.int v))) (f, h.2)) : xP S (d + 4) 230 0 [(0, .ref a), (1, .int (nI b))] [] h Q := by
  obtain ⟨hG, ⟨e2, e3, e4⟩, -, r5, r6, -⟩ := id hr
  have n5 := hG.1.2
  have n6 := hG.2.1.2
  
  refine xs_f 1 r_230_0 rfl ?_
  refine xs_get 4 r_230_1 rfl rfl (by first | assumption | exact xup_s | exact o0 | (refine (xup_n (by omega)).trans ?_; first | assumption | exact xup_s | exact o0) | (refine (xup_n (by omega)).trans ((xup_n (by omega)).trans ?_); first | assumption | exact xup_s | exact o0) | (refine (xup_n (by omega)).trans ((xup_n (by omega)).trans ((xup_n (by omega)).trans ?_)); first | assumption | exact xup_s | exact o0)) (by rfl) ?_
  refine xs_f 5 r_230_4 rfl ?_
  refine xs_f 6 r_230_5 rfl ?_
  refine xs_f 7 r_230_6 rfl ?_
  refine xs_aldI 8 r_230_7 (fun _ _ => rfl) rfl rfl rfl (j := (b + 1)) (nI_addE rfl (nI_k 1)) p0 (by omega) ?_
  refine xs_f 9 (lv2 := [(2, _), (0, _), (1, _)]) r_230_8 rfl ?_
  refine xs_f 10 r_230_9 rfl ?_
  refine xs_get 13 r_230_10 rfl rfl (by first | assumption | exact xup_s | exact o0 | (refine (xup_n (by omega)).trans ?_; first | assumption | exact xup_s | exact o0) | (refine (xup_n (by omega)).trans ((xup_n (by omega)).trans ?_); first | assumption | exact xup_s | exact o0) | (refine (xup_n (by omega)).trans ((xup_n (by omega)).trans ((xup_n (by omega)).trans ?_)); first | assumption | exact xup_s | exact o0)) (by rfl) ?_
  refine xs_f 14 r_230_13 rfl ?_
  refine xs_aldI 15 r_230_14 (fun _ _ => rfl) rfl rfl rfl (j := b) rfl p0 (by omega) ?_
  refine xs_f 133 r_230_15 (by rw [hl]; rfl) ?_
  refine xs_f 134 r_230_133 rfl ?_
  refine xs_f 135 r_230_134 rfl ?_
  refine xs_call (lv2 := [(0, _), (1, _)]) r_230_135 rfl rfl (by decide) (xcan_0 rfl rfl (by first | assumption | exact xup_s | exact o0 | (refine (xup_n (by omega)).trans ?_; first | assumption | exact xup_s | exact o0) | (refine (xup_n (by omega)).trans ((xup_n (by omega)).trans ?_); first | assumption | exact xup_s | exact o0) | (refine (xup_n (by omega)).trans ((xup_n (by omega)).trans ((xup_n (by omega)).trans ?_)); first | assumption | exact xup_s | exact o0)) (by rfl)) rfl (m_177 o0 g0 hG h32 (fun hc f1 o1 g1 y1 => ?_) (fun hc i hi hpi f1 o1 g1 y1 => ?_))
  · refine xK_v rfl ?_
    refine xs_ret r_230_138 rfl ?_
    first
      | exact kF hc f1 o1 g1 ⟨_, m0.fr (y1 _ (by omega))⟩ y1.to7
      | exact kS hc f1 _ o1 (by first | exact g1 | (rw [eg]; exact g1)) ⟨_, m0.fr (y1 _ (by omega))⟩ y1.to7
  · have eg : gC G np no sc mn (fun t => Pa (b + 1 + t)) 5 = xw (wdN G i mn no) (15 + i) 1 := by
      show xw (wdN G (Pa (b + 1 + 0)).toNatClampNeg mn no) (15 + (Pa (b + 1 + 0)).toNatClampNeg) 1 = _
      rw [show Pa (b + 1 + 0) = nI i from hpi, nI_clamp (by omega)]
    refine xK_v rfl ?_
    refine xs_ret r_230_138 rfl ?_
    first
      | exact kF hc f1 o1 g1 ⟨_, m0.fr (y1 _ (by omega))⟩ y1.to7
      | exact kS hc f1 _ o1 (by first | exact g1 | (rw [eg]; exact g1)) ⟨_, m0.fr (y1 _ (by omega))⟩ y1.to7

theorem m_230_3s {S : XSc} {d : Nat} {h : XH} {Q : XO → XH → Prop} {a b : Nat} {ch sv ty ea fa ol th sp wr : Int32} {Mo Pa : Nat → Int32} {G : Nat → Int32} {mn : Nat → Nat} {np no : Nat} {nn : Int32} {N sc : Nat} {ho : Int32} {TS TH tr : Nat → Int32} {pl : Nat → XPl} {q : Nat → XQu} (hr : RG G mn np no nn sc ho tr pl q) (hk : OKc np no nn N sc ho TS TH pl q) (hs : sc ≤ 2000) (o0 : h.1 a = some (.inr (9, mO a ch sv ty ea fa ol th sp wr))) (g0 : IA h.1 0 (a + 1) 288 G) (m0 : IA h.1 0 (a + 7) 28 Mo) (p0 : IA h.1 0 (a + 8) 420 Pa) (h32 : 32 ≤ a) (hb : b + 7 ≤ 420) (hl : Pa b = 115) (hn : 0 < no) (kF : (cltC np no (gP G) (gQ G mn) (fun t => Pa (b + 1 + t)) 3) ≠ 0 → ∀ f, f a = some (.inr (9, mO a ch sv ty ea fa ol (nI (cltC np no (gP G) (gQ G mn) (fun t => Pa (b + 1 + t)) 3)) sp wr)) → IA f 0 (a + 1) 288 G → (∃ Mo, IA f 0 (a + 7) 28 Mo) → Fm7 h.1 f a → Q (.inl (some (.int 0))) (f, h.2)) (kS : (cltC np no (gP G) (gQ G mn) (fun t => Pa (b + 1 + t)) 3) = 0 → ∀ f v, f a = some (.inr (9, mO a ch sv ty ea fa ol 0 sp wr)) → IA f 0 (a + 1) 288 (gC G np no sc mn (fun t => Pa (b + 1 + t)) 3) → (∃ Mo, IA f 0 (a + 7) 28 Mo) → Fm7 h.1 f a → Q (.inl (some (.int v))) (f, h.2)) : xP S (d + 4) 230 0 [(0, .ref a), (1, .int (nI b))] [] h Q := by
  obtain ⟨hG, ⟨e2, e3, e4⟩, -, r5, r6, -⟩ := id hr
  have n5 := hG.1.2
  have n6 := hG.2.1.2
  have hok : okQ (gE G 0) (mn 0) := okEst.Q n5 ((hk.2.1 0 hn).cg (r6 0 hn).symm).2.2.2.1
  
  refine xs_f 1 r_230_0 rfl ?_
  refine xs_get 4 r_230_1 rfl rfl (by first | assumption | exact xup_s | exact o0 | (refine (xup_n (by omega)).trans ?_; first | assumption | exact xup_s | exact o0) | (refine (xup_n (by omega)).trans ((xup_n (by omega)).trans ?_); first | assumption | exact xup_s | exact o0) | (refine (xup_n (by omega)).trans ((xup_n (by omega)).trans ((xup_n (by omega)).trans ?_)); first | assumption | exact xup_s | exact o0)) (by rfl) ?_
  refine xs_f 5 r_230_4 rfl ?_
  refine xs_f 6 r_230_5 rfl ?_
  refine xs_f 7 r_230_6 rfl ?_
  refine xs_aldI 8 r_230_7 (fun _ _ => rfl) rfl rfl rfl (j := (b + 1)) (nI_addE rfl (nI_k 1)) p0 (by omega) ?_
  refine xs_f 9 (lv2 := [(2, _), (0, _), (1, _)]) r_230_8 rfl ?_
  refine xs_f 10 r_230_9 rfl ?_
  refine xs_get 13 r_230_10 rfl rfl (by first | assumption | exact xup_s | exact o0 | (refine (xup_n (by omega)).trans ?_; first | assumption | exact xup_s | exact o0) | (refine (xup_n (by omega)).trans ((xup_n (by omega)).trans ?_); first | assumption | exact xup_s | exact o0) | (refine (xup_n (by omega)).trans ((xup_n (by omega)).trans ((xup_n (by omega)).trans ?_)); first | assumption | exact xup_s | exact o0)) (by rfl) ?_
  refine xs_f 14 r_230_13 rfl ?_
  refine xs_aldI 15 r_230_14 (fun _ _ => rfl) rfl rfl rfl (j := b) rfl p0 (by omega) ?_
  refine xs_f 122 r_230_15 (by rw [hl]; rfl) ?_
  refine xs_f 123 r_230_122 rfl ?_
  refine xs_f 124 r_230_123 rfl ?_
  refine xs_call (lv2 := [(0, _), (1, _)]) r_230_124 rfl rfl (by decide) (xcan_0 rfl rfl (by first | assumption | exact xup_s | exact o0 | (refine (xup_n (by omega)).trans ?_; first | assumption | exact xup_s | exact o0) | (refine (xup_n (by omega)).trans ((xup_n (by omega)).trans ?_); first | assumption | exact xup_s | exact o0) | (refine (xup_n (by omega)).trans ((xup_n (by omega)).trans ((xup_n (by omega)).trans ?_)); first | assumption | exact xup_s | exact o0)) (by rfl)) rfl (m_172 o0 g0 hG h32 e4 (by omega) hok (fun hc f1 o1 g1 y1 => ?_) (fun hc f1 o1 g1 y1 => ?_))
  · refine xK_v rfl ?_
    refine xs_ret r_230_127 rfl ?_
    first
      | exact kF hc f1 o1 g1 ⟨_, m0.fr (y1 _ (by omega))⟩ y1.to7
      | exact kS hc f1 _ o1 (by first | exact g1 | (rw [eg]; exact g1)) ⟨_, m0.fr (y1 _ (by omega))⟩ y1.to7
  · refine xK_v rfl ?_
    refine xs_ret r_230_127 rfl ?_
    first
      | exact kF hc f1 o1 g1 ⟨_, m0.fr (y1 _ (by omega))⟩ y1.to7
      | exact kS hc f1 _ o1 (by first | exact g1 | (rw [eg]; exact g1)) ⟨_, m0.fr (y1 _ (by omega))⟩ y1.to7

theorem m_230_3z {S : XSc} {d : Nat} {h : XH} {Q : XO → XH → Prop} {a b : Nat} {ch sv ty ea fa ol th sp wr : Int32} {Mo Pa : Nat → Int32} {G : Nat → Int32} {mn : Nat → Nat} {np no : Nat} {nn : Int32} {N sc : Nat} {ho : Int32} {TS TH tr : Nat → Int32} {pl : Nat → XPl} {q : Nat → XQu} (hr : RG G mn np no nn sc ho tr pl q) (hk : OKc np no nn N sc ho TS TH pl q) (hs : sc ≤ 2000) (o0 : h.1 a = some (.inr (9, mO a ch sv ty ea fa ol th sp wr))) (g0 : IA h.1 0 (a + 1) 288 G) (m0 : IA h.1 0 (a + 7) 28 Mo) (p0 : IA h.1 0 (a + 8) 420 Pa) (h32 : 32 ≤ a) (hb : b + 7 ≤ 420) (hl : Pa b = 115) (hn : no = 0) (kF : (cltC np no (gP G) (gQ G mn) (fun t => Pa (b + 1 + t)) 3) ≠ 0 → ∀ f, f a = some (.inr (9, mO a ch sv ty ea fa ol (nI (cltC np no (gP G) (gQ G mn) (fun t => Pa (b + 1 + t)) 3)) sp wr)) → IA f 0 (a + 1) 288 G → (∃ Mo, IA f 0 (a + 7) 28 Mo) → Fm7 h.1 f a → Q (.inl (some (.int 0))) (f, h.2)) (kS : (cltC np no (gP G) (gQ G mn) (fun t => Pa (b + 1 + t)) 3) = 0 → ∀ f v, f a = some (.inr (9, mO a ch sv ty ea fa ol 0 sp wr)) → IA f 0 (a + 1) 288 (gC G np no sc mn (fun t => Pa (b + 1 + t)) 3) → (∃ Mo, IA f 0 (a + 7) 28 Mo) → Fm7 h.1 f a → Q (.inl (some (.int v))) (f, h.2)) : xP S (d + 4) 230 0 [(0, .ref a), (1, .int (nI b))] [] h Q := by
  obtain ⟨hG, ⟨e2, e3, e4⟩, -, r5, r6, -⟩ := id hr
  have n5 := hG.1.2
  have n6 := hG.2.1.2
  
  refine xs_f 1 r_230_0 rfl ?_
  refine xs_get 4 r_230_1 rfl rfl (by first | assumption | exact xup_s | exact o0 | (refine (xup_n (by omega)).trans ?_; first | assumption | exact xup_s | exact o0) | (refine (xup_n (by omega)).trans ((xup_n (by omega)).trans ?_); first | assumption | exact xup_s | exact o0) | (refine (xup_n (by omega)).trans ((xup_n (by omega)).trans ((xup_n (by omega)).trans ?_)); first | assumption | exact xup_s | exact o0)) (by rfl) ?_
  refine xs_f 5 r_230_4 rfl ?_
  refine xs_f 6 r_230_5 rfl ?_
  refine xs_f 7 r_230_6 rfl ?_
  refine xs_aldI 8 r_230_7 (fun _ _ => rfl) rfl rfl rfl (j := (b + 1)) (nI_addE rfl (nI_k 1)) p0 (by omega) ?_
  refine xs_f 9 (lv2 := [(2, _), (0, _), (1, _)]) r_230_8 rfl ?_
  refine xs_f 10 r_230_9 rfl ?_
  refine xs_get 13 r_230_10 rfl rfl (by first | assumption | exact xup_s | exact o0 | (refine (xup_n (by omega)).trans ?_; first | assumption | exact xup_s | exact o0) | (refine (xup_n (by omega)).trans ((xup_n (by omega)).trans ?_); first | assumption | exact xup_s | exact o0) | (refine (xup_n (by omega)).trans ((xup_n (by omega)).trans ((xup_n (by omega)).trans ?_)); first | assumption | exact xup_s | exact o0)) (by rfl) ?_
  refine xs_f 14 r_230_13 rfl ?_
  refine xs_aldI 15 r_230_14 (fun _ _ => rfl) rfl rfl rfl (j := b) rfl p0 (by omega) ?_
  refine xs_f 122 r_230_15 (by rw [hl]; rfl) ?_
  refine xs_f 123 r_230_122 rfl ?_
  refine xs_f 124 r_230_123 rfl ?_
  refine xs_call (lv2 := [(0, _), (1, _)]) r_230_124 rfl rfl (by decide) (xcan_0 rfl rfl (by first | assumption | exact xup_s | exact o0 | (refine (xup_n (by omega)).trans ?_; first | assumption | exact xup_s | exact o0) | (refine (xup_n (by omega)).trans ((xup_n (by omega)).trans ?_); first | assumption | exact xup_s | exact o0) | (refine (xup_n (by omega)).trans ((xup_n (by omega)).trans ((xup_n (by omega)).trans ?_)); first | assumption | exact xup_s | exact o0)) (by rfl)) rfl (m_172z o0 g0 hG h32 hn (fun hc f1 o1 g1 y1 => ?_))
  refine xK_v rfl ?_
  refine xs_ret r_230_127 rfl ?_
  exact kF hc f1 o1 g1 ⟨_, m0.fr (y1 _ (by omega))⟩ y1.to7

theorem m_230_3 {S : XSc} {d : Nat} {h : XH} {Q : XO → XH → Prop} {a b : Nat} {ch sv ty ea fa ol th sp wr : Int32} {Mo Pa : Nat → Int32} {G : Nat → Int32} {mn : Nat → Nat} {np no : Nat} {nn : Int32} {N sc : Nat} {ho : Int32} {TS TH tr : Nat → Int32} {pl : Nat → XPl} {q : Nat → XQu} (hr : RG G mn np no nn sc ho tr pl q) (hk : OKc np no nn N sc ho TS TH pl q) (hs : sc ≤ 2000) (o0 : h.1 a = some (.inr (9, mO a ch sv ty ea fa ol th sp wr))) (g0 : IA h.1 0 (a + 1) 288 G) (m0 : IA h.1 0 (a + 7) 28 Mo) (p0 : IA h.1 0 (a + 8) 420 Pa) (h32 : 32 ≤ a) (hb : b + 7 ≤ 420) (hl : Pa b = 115) (kF : (cltC np no (gP G) (gQ G mn) (fun t => Pa (b + 1 + t)) 3) ≠ 0 → ∀ f, f a = some (.inr (9, mO a ch sv ty ea fa ol (nI (cltC np no (gP G) (gQ G mn) (fun t => Pa (b + 1 + t)) 3)) sp wr)) → IA f 0 (a + 1) 288 G → (∃ Mo, IA f 0 (a + 7) 28 Mo) → Fm7 h.1 f a → Q (.inl (some (.int 0))) (f, h.2)) (kS : (cltC np no (gP G) (gQ G mn) (fun t => Pa (b + 1 + t)) 3) = 0 → ∀ f v, f a = some (.inr (9, mO a ch sv ty ea fa ol 0 sp wr)) → IA f 0 (a + 1) 288 (gC G np no sc mn (fun t => Pa (b + 1 + t)) 3) → (∃ Mo, IA f 0 (a + 7) 28 Mo) → Fm7 h.1 f a → Q (.inl (some (.int v))) (f, h.2)) : xP S (d + 4) 230 0 [(0, .ref a), (1, .int (nI b))] [] h Q := by
  rcases Nat.eq_zero_or_pos no with hn | hn
  · exact m_230_3z hr hk hs o0 g0 m0 p0 h32 hb hl hn kF kS
  · exact m_230_3s hr hk hs o0 g0 m0 p0 h32 hb hl hn kF kS

def ltr (j : Nat) : Int32 := ([112, 111, 98, 115, 108, 117] : List Int32).getD j 0
theorem m_230 {S : XSc} {d : Nat} {h : XH} {Q : XO → XH → Prop} {a b : Nat} {ch sv ty ea fa ol th sp wr : Int32} {Mo Pa : Nat → Int32} {G : Nat → Int32} {mn : Nat → Nat} {np no : Nat} {nn : Int32} {N sc : Nat} {ho : Int32} {TS TH tr : Nat → Int32} {pl : Nat → XPl} {q : Nat → XQu} (hr : RG G mn np no nn sc ho tr pl q) (hk : OKc np no nn N sc ho TS TH pl q) (hs : sc ≤ 2000) (o0 : h.1 a = some (.inr (9, mO a ch sv ty ea fa ol th sp wr))) (g0 : IA h.1 0 (a + 1) 288 G) (m0 : IA h.1 0 (a + 7) 28 Mo) (p0 : IA h.1 0 (a + 8) 420 Pa) (h32 : 32 ≤ a) (hb : b + 7 ≤ 420)  {j : Nat} (hj : j < 6) (hl : Pa b = ltr j) (kF : (cltC np no (gP G) (gQ G mn) (fun t => Pa (b + 1 + t)) j) ≠ 0 → ∀ f, f a = some (.inr (9, mO a ch sv ty ea fa ol (nI (cltC np no (gP G) (gQ G mn) (fun t => Pa (b + 1 + t)) j)) sp wr)) → IA f 0 (a + 1) 288 G → (∃ Mo, IA f 0 (a + 7) 28 Mo) → Fm7 h.1 f a → Q (.inl (some (.int 0))) (f, h.2)) (kS : (cltC np no (gP G) (gQ G mn) (fun t => Pa (b + 1 + t)) j) = 0 → ∀ f v, f a = some (.inr (9, mO a ch sv ty ea fa ol 0 sp wr)) → IA f 0 (a + 1) 288 (gC G np no sc mn (fun t => Pa (b + 1 + t)) j) → (∃ Mo, IA f 0 (a + 7) 28 Mo) → Fm7 h.1 f a → Q (.inl (some (.int v))) (f, h.2)) : xP S (d + 4) 230 0 [(0, .ref a), (1, .int (nI b))] [] h Q :=
  match j, hj, hl, kF, kS with
  | 0, _, hl, kF, kS => m_230_0 hr hk hs o0 g0 m0 p0 h32 hb hl kF kS
  | 1, _, hl, kF, kS => m_230_1 hr hk hs o0 g0 m0 p0 h32 hb hl kF kS
  | 2, _, hl, kF, kS => m_230_2 hr hk hs o0 g0 m0 p0 h32 hb hl kF kS
  | 3, _, hl, kF, kS => m_230_3 hr hk hs o0 g0 m0 p0 h32 hb hl kF kS
  | 4, _, hl, kF, kS => m_230_4 hr hk hs o0 g0 m0 p0 h32 hb hl kF kS
  | 5, _, hl, kF, kS => m_230_5 hr hk hs o0 g0 m0 p0 h32 hb hl kF kS
  | j + 6, hj, _, _, _ => absurd hj (by omega)

