/-! the law's loop: what holds ahead of each call -/
theorem lg_cmp_r (x : Int64) : lg_cmp x x = 0 := by
  unfold lg_cmp
  rw [if_neg (Int64.lt_irrefl), if_pos rfl]
theorem DA.fr {f g : Nat → Option XE} {a n : Nat} (h : DA f a n) (e : g a = f a) : DA g a n := by
  obtain ⟨F, h1⟩ := h
  exact ⟨F, e.trans h1⟩
def LwP (h : XH) (c : Nat) (H Sv : Nat → Int32) (pos ch : Nat) (sv : Bool) (K : Nat) (ea fa : Int32) (G : Nat → Int32) (tn : Nat) (Bu : Nat → Int32) (on : Nat) (Le : Nat → Int32) : Prop :=
  CoX h.1 H Sv pos ch sv K ea fa ∧ Sim h.1 33 G K ∧ (∃ W lo hi, CvP h.1 794 W lo hi) ∧ (∃ p cc nu, TxP h.1 804 tn p cc Bu nu) ∧ SbX 820 h on Le ∧ (∃ B Mo Pa th sp wr, MdP h.1 809 G B H Sv Bu Le Mo Pa (nI ch) (bI sv) (nI tn) ea fa (nI on) th sp wr) ∧ (∃ w, LA h.1 818 1 w) ∧ DA h.1 819 1 ∧ (K + tn ≤ c ∧ ch ≤ 8 ∧ tn ≤ 60 ∧ on ≤ 100) ∧ (h.2.2.1 ≤ 900 + 100 * c ∧ h.2.2.2 ≤ 9000 + 13400 * c)
def LwI (h : XH) (c : Nat) : Prop := ∃ H Sv pos ch sv K ea fa G tn Bu on Le, LwP h c H Sv pos ch sv K ea fa G tn Bu on Le
theorem SbX.fr {B0 n : Nat} {L : Nat → Int32} {h h2 : XH} (hX : SbX B0 h n L) (e : ∀ x, x = 807 ∨ x = 808 ∨ B0 ≤ x → h2.1 x = h.1 x) (hB : h2.2 = h.2 ∨ h2.2 = (xbump h).2) : SbX B0 h2 n L := by
  obtain ⟨cap, v, Bt, k, ⟨mb, o0⟩, r0, hL, hBt, hn, ⟨hv8, hvB, hvk⟩, hk, hBk, hB9⟩ := hX
  have r1 := r0.fr (e v (by omega))
  have o1 := (e 807 (Or.inl rfl)).trans o0
  rcases hB with hB | hB
  · exact ⟨cap, v, Bt, k, ⟨mb, o1⟩, r1, hL, hBt, hn, ⟨hv8, hvB, hvk⟩, (congrArg Prod.fst hB).trans hk, hBk, hB9⟩
  · refine ⟨cap, v, Bt, k + 1, ⟨mb, o1⟩, r1, hL, hBt, hn, ⟨hv8, hvB, by omega⟩, (congrArg Prod.fst hB).trans ?_, by omega, hB9⟩
    show h.2.1.map (fun n => n + 1) = some (k + 1)
    rw [hk]
    rfl
theorem cnt_B {h h2 : XH} {c : Nat} (hc : h.2.2.1 ≤ 900 + 100 * c ∧ h.2.2.2 ≤ 9000 + 13400 * c) (hB : h2.2 = h.2 ∨ h2.2 = (xbump h).2) : h2.2.2.1 ≤ 900 + 100 * (c + 1) ∧ h2.2.2.2 ≤ 9000 + 13400 * (c + 1) := by
  rcases hB with hB | hB
  · rw [hB]; omega
  · rw [hB]
    show h.2.2.1 + 1 ≤ _ ∧ h.2.2.2 + 6 ≤ _
    omega
section LWQ
variable {h h2 : XH} {c : Nat} {H Sv : Nat → Int32} {pos ch : Nat} {sv : Bool} {K : Nat} {ea fa : Int32} {G : Nat → Int32} {tn : Nat} {Bu : Nat → Int32} {on : Nat} {Le : Nat → Int32}
/-- after a call that only answers -/
theorem LwP.q (hP : LwP h c H Sv pos ch sv K ea fa G tn Bu on Le) (e : ∀ x, x ≠ 809 → x ≠ 818 → x ≠ 819 → (x < 794 ∨ 804 ≤ x) → h2.1 x = h.1 x) (hm : ∃ th sp wr, h2.1 809 = some (.inr (9, mO 809 (nI ch) (bI sv) (nI tn) ea fa (nI on) th sp wr))) (hO : ∃ w, LA h2.1 818 1 w) (hD : DA h2.1 819 1) (hC : ∃ W lo hi, CvP h2.1 794 W lo hi) (hB : h2.2 = h.2 ∨ h2.2 = (xbump h).2) : LwI h2 (c + 1) := by
  obtain ⟨hX, hS, -, ⟨p0, cc0, nu0, hT⟩, hZ, ⟨B, Mo, Pa, th, sp, wr, m0, g0, b0, H0, S0, U0, L0, M0, A0⟩, -, -, hK, hcn⟩ := hP
  obtain ⟨th2, sp2, wr2, m2⟩ := hm
  exact ⟨H, Sv, pos, ch, sv, K, ea, fa, G, tn, Bu, on, Le, hX.fr (fun x hx => e x (by omega) (by omega) (by omega) (by omega)), hS.fr (fun x h1 h2 => e x (by omega) (by omega) (by omega) (by omega)), hC, ⟨p0, cc0, nu0, hT.fr (fun x h1 h2 => e x (by omega) (by omega) (by omega) (by omega))⟩, hZ.fr (fun x hx => e x (by omega) (by omega) (by omega) (by omega)) hB,
    ⟨B, Mo, Pa, th2, sp2, wr2, m2, g0.fr (e _ (by omega) (by omega) (by omega) (by omega)), b0.fr (e _ (by omega) (by omega) (by omega) (by omega)), H0.fr (e _ (by omega) (by omega) (by omega) (by omega)), S0.fr (e _ (by omega) (by omega) (by omega) (by omega)), U0.fr (e _ (by omega) (by omega) (by omega) (by omega)), L0.fr (e _ (by omega) (by omega) (by omega) (by omega)), M0.fr (e _ (by omega) (by omega) (by omega) (by omega)), A0.fr (e _ (by omega) (by omega) (by omega) (by omega))⟩, hO, hD, ⟨by omega, hK.2⟩, cnt_B hcn hB⟩
/-- after a call that changes something -/
theorem LwP.p (hP : LwP h c H Sv pos ch sv K ea fa G tn Bu on Le) {H2 Sv2 : Nat → Int32} {pos2 ch2 : Nat} {sv2 : Bool} {K2 : Nat} {ea2 fa2 : Int32} {G2 : Nat → Int32} {tn2 : Nat} {Bu2 : Nat → Int32} (hX : CoX h2.1 H2 Sv2 pos2 ch2 sv2 K2 ea2 fa2) (hS : Sim h2.1 33 G2 K2) (hT : ∃ p cc nu, TxP h2.1 804 tn2 p cc Bu2 nu) (hM : ∃ B Mo Pa th sp wr, MdP h2.1 809 G2 B H2 Sv2 Bu2 Le Mo Pa (nI ch2) (bI sv2) (nI tn2) ea2 fa2 (nI on) th sp wr) (hO : ∃ w, LA h2.1 818 1 w) (e : ∀ x, (794 ≤ x ∧ x < 804) ∨ x = 807 ∨ x = 808 ∨ 819 ≤ x → h2.1 x = h.1 x) (hB : h2.2 = h.2 ∨ h2.2 = (xbump h).2) (hK : K2 + tn2 ≤ c + 1) (h8 : ch2 ≤ 8) (ht : tn2 ≤ 60) : LwI h2 (c + 1) := by
  obtain ⟨-, -, ⟨W, lo, hi, hC⟩, -, hZ, -, -, hD, hKo, hcn⟩ := hP
  exact ⟨H2, Sv2, pos2, ch2, sv2, K2, ea2, fa2, G2, tn2, Bu2, on, Le, hX, hS, ⟨W, lo, hi, hC.fr (fun x h1 h2 => e x (by omega))⟩, hT, hZ.fr (fun x hx => e x (by omega)) hB, hM, hO, hD.fr (e _ (by omega)), ⟨hK, h8, ht, hKo.2.2.2⟩, cnt_B hcn hB⟩
theorem smP_of {np no : Nat} {nn : Int32} {N sc : Nat} {ho : Int32} {TS TH : Nat → Int32} {pl : Nat → XPl} {q : Nat → XQu} (hk : OKc np no nn N sc ho TS TH pl q) (r6 : ∀ i, i < np → eqP (pl i) (gP G i)) (hs : sc ≤ 1000) : ∀ i, i < np → smP G i := fun i hi => by
  obtain ⟨s, t, u, e1, e2, e3, l1, l2, l3⟩ := hk.2.2.2.2 i hi
  have e4 := (r6 i hi).2.1
  have e5 := (r6 i hi).ht
  exact ⟨s, t, by omega, by omega, e4.symm.trans e1, (gB_sum G (75 + 9 * i)).symm.trans (e5.symm.trans e2)⟩
theorem binS_of {np no : Nat} {nn : Int32} {N sc : Nat} {ho : Int32} {TS TH : Nat → Int32} {pl : Nat → XPl} {q : Nat → XQu} (hk : OKc np no nn N sc ho TS TH pl q) (r6 : ∀ i, i < np → eqP (pl i) (gP G i)) : (∀ j, 1 ≤ j → j ≤ 9 → TS j = xsum (fun i => G (30 + 9 * i + j - 1)) np) ∧ (∀ j, 1 ≤ j → j ≤ 9 → TH j = xsum (fun i => G (75 + 9 * i + j - 1)) np) ∧ ∀ j, 1 ≤ j → j ≤ 9 → xsum (fun i => (pl i).2.2.2.1 j) np = xsum (fun i => G (30 + 9 * i + j - 1)) np := by
  have e1 : ∀ j, 1 ≤ j → j ≤ 9 → xsum (fun i => (pl i).2.2.2.1 j) np = xsum (fun i => G (30 + 9 * i + j - 1)) np := fun j h1 h9 => xsum_eq (fun i hi => by
    rw [(r6 i hi).2.2.2.1 j (by omega)]
    exact if_neg (by omega))
  refine ⟨fun j h1 h9 => ((hk.2.2.2.1 j (by omega)).1).trans (e1 j h1 h9), fun j h1 h9 => ((hk.2.2.2.1 j (by omega)).2).trans (xsum_eq (fun i hi => ?_)), e1⟩
  rw [(r6 i hi).2.2.2.2 j (by omega)]
  exact if_neg (by omega)
theorem ends_of {np no : Nat} {nn : Int32} {N sc : Nat} {ho : Int32} {TS TH : Nat → Int32} {pl : Nat → XPl} {q : Nat → XQu} (hk : OKc np no nn N sc ho TS TH pl q) : ∃ L U : Nat → Nat → Nat, ∀ i, i < no → endsE (q i).2.2.2 (q i).2.2.1 (L i) (U i) := by
  refine ⟨fun i r => nv ((q i).2.2.2 r).2.1, fun i r => nv ((q i).2.2.2 r).2.2.1, fun i hi r hr => ?_⟩
  obtain ⟨-, ⟨l, u, e1, e2, h1, h2⟩, -⟩ := (hk.2.1 i hi).2.2.2.1 r hr
  have n1 : nv ((q i).2.2.2 r).2.1 = l := nv_n e1 (by omega)
  have n2 : nv ((q i).2.2.2 r).2.2.1 = u := nv_n e2 (by omega)
  show ((q i).2.2.2 r).2.1 = nI (nv ((q i).2.2.2 r).2.1) ∧ ((q i).2.2.2 r).2.2.1 = nI (nv ((q i).2.2.2 r).2.2.1) ∧ nv ((q i).2.2.2 r).2.1 ≤ nv ((q i).2.2.2 r).2.2.1 ∧ nv ((q i).2.2.2 r).2.2.1 ≤ 999
  rw [n1, n2]
  exact ⟨e1, e2, h1, h2⟩
theorem conf_of {np no : Nat} {nn : Int32} {N sc : Nat} {ho : Int32} {TS TH : Nat → Int32} {pl : Nat → XPl} {q : Nat → XQu} {mn : Nat → Nat} (hk : OKc np no nn N sc ho TS TH pl q) (r7 : ∀ i, i < no → eqQ (q i) (gQ G mn i)) : (∀ i r, i < no → r < (q i).2.2.1 → xconf ((q i).2.2.2 r).2.2.2.1) ∧ ∀ i r, i < no → r < mn i → xconf (gE G i r).2.2.2.1 :=
  ⟨fun i r hi hr => ((hk.2.1 i hi).2.2.2.1 r hr).2.2.1, fun i r hi hr => (((hk.2.1 i hi).cg (r7 i hi).symm).2.2.2.1 r hr).2.2.1⟩
end LWQ
/-- a fault's exception, case by case -/
theorem fl5 {Q : XO → XH → Prop} {h : XH} {x : Nat} (hx : x ≤ 5) (h1 : x = 1 → Q (.inr 2) h) (h2 : x = 2 → Q (.inr 5) h) (h3 : x = 3 → Q (.inr 1) h) (h4 : x = 4 → Q (.inr 4) h) (h5 : x = 5 → Q (.inr 0) h) : x ≠ 0 → Q (.inr (fE x)) h := fun h0 =>
  match x, hx, h0, h1, h2, h3, h4, h5 with
  | 0, _, h0, _, _, _, _, _ => absurd rfl h0
  | 1, _, _, h1, _, _, _, _ => h1 rfl
  | 2, _, _, _, h2, _, _, _ => h2 rfl
  | 3, _, _, _, _, h3, _, _ => h3 rfl
  | 4, _, _, _, _, _, h4, _ => h4 rfl
  | 5, _, _, _, _, _, _, h5 => h5 rfl
  | x + 6, hx, _, _, _, _, _, _ => absurd hx (by omega)
