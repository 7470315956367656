/-! the law's loop: what holds ahead of each call -/
theorem DA.fr {f g : Nat → Option XE} {a n : Nat} (h : DA f a n) (e : g a = f a) : DA g a n := by
  obtain ⟨F, h1⟩ := h
  exact ⟨F, e.trans h1⟩
def LwP (h : XH) (c : Nat) (H Sv : Nat → Int32) (pos ch : Nat) (sv : Bool) (K : Nat) (ea fa : Int32) (G : Nat → Int32) (tn : Nat) (Bu : Nat → Int32) (on : Nat) (Le : Nat → Int32) : Prop :=
  CoX h.1 H Sv pos ch sv K ea fa ∧ Sim h.1 33 G K ∧ (∃ W lo hi, CvP h.1 794 W lo hi) ∧ (∃ p cc nu, TxP h.1 804 tn p cc Bu nu) ∧ SbX 820 h on Le ∧ (∃ B Mo Pa th sp wr, MdP h.1 809 G B H Sv Bu Le Mo Pa (nI ch) (bI sv) (nI tn) ea fa (nI on) th sp wr) ∧ (∃ w, LA h.1 818 1 w) ∧ DA h.1 819 1 ∧ (K + tn ≤ c ∧ ch ≤ 8 ∧ tn ≤ 60 ∧ on ≤ 100) ∧ (h.2.2.1 ≤ 900 + 100 * c ∧ h.2.2.2 ≤ 9000 + 13400 * c)
def LwI (h : XH) (c : Nat) : Prop := ∃ H Sv pos ch sv K ea fa G tn Bu on Le, LwP h c H Sv pos ch sv K ea fa G tn Bu on Le
theorem SbX.fr {B0 n : Nat} {L : Nat → Int32} {h h2 : XH} (hX : SbX B0 h n L) (e : ∀ x, x = 807 ∨ x = 808 ∨ B0 ≤ x → h2.1 x = h.1 x) (hB : h2.2 = h.2 ∨ h2.2 = (xbump h).2) : SbX B0 h2 n L := by
  obtain ⟨cap, v, Bt, k, ⟨mb, o0⟩, r0, hL, hBt, hn, ⟨hv8, hvB, hvk⟩, hk, hBk, hB9⟩ := hX
  have r1 := r0.fr (e v (by omega))
  have o1 := (e 807 (Or.inl rfl)).trans o0
  rcases hB with hB | hB
  · exact ⟨cap, v, Bt, k, ⟨mb, o1⟩, r1, hL, hBt, hn, ⟨hv8, hvB, hvk⟩, (congrArg Prod.fst hB).trans hk, hBk, hB9⟩
  · refine ⟨cap, v, Bt, k + 1, ⟨mb, o1⟩, r1, hL, hBt, hn, ⟨hv8, hvB, by omega⟩, (congrArg Prod.fst hB).trans ?_, by omega, hB9⟩
    show h.2.1.map (fun n => n + 1) = some (k + 1)
    rw [hk]
    rfl
section LWQ
variable {h h2 : XH} {c : Nat} {H Sv : Nat → Int32} {pos ch : Nat} {sv : Bool} {K : Nat} {ea fa : Int32} {G : Nat → Int32} {tn : Nat} {Bu : Nat → Int32} {on : Nat} {Le : Nat → Int32}
theorem smP_of {np no : Nat} {nn : Int32} {N sc : Nat} {ho : Int32} {TS TH : Nat → Int32} {pl : Nat → XPl} {q : Nat → XQu} (hk : OKc np no nn N sc ho TS TH pl q) (r6 : ∀ i, i < np → eqP (pl i) (gP G i)) (hs : sc ≤ 1000) : ∀ i, i < np → smP G i := fun i hi => by
  obtain ⟨s, t, u, e1, e2, e3, l1, l2, l3⟩ := hk.2.2.2.2 i hi
  have e4 := (r6 i hi).2.1
  have e5 := (r6 i hi).ht
  exact ⟨s, t, by omega, by omega, e4.symm.trans e1, (gB_sum G (75 + 9 * i)).symm.trans (e5.symm.trans e2)⟩
theorem binS_of {np no : Nat} {nn : Int32} {N sc : Nat} {ho : Int32} {TS TH : Nat → Int32} {pl : Nat → XPl} {q : Nat → XQu} (hk : OKc np no nn N sc ho TS TH pl q) (r6 : ∀ i, i < np → eqP (pl i) (gP G i)) : (∀ j, 1 ≤ j → j ≤ 9 → TS j = xsum (fun i => G (30 + 9 * i + j - 1)) np) ∧ (∀ j, 1 ≤ j → j ≤ 9 → TH j = xsum (fun i => G (75 + 9 * i + j - 1)) np) ∧ ∀ j, 1 ≤ j → j ≤ 9 → xsum (fun i => (pl i).2.2.2.1 j) np = xsum (fun i => G (30 + 9 * i + j - 1)) np := by
  have e1 : ∀ j, 1 ≤ j → j ≤ 9 → xsum (fun i => (pl i).2.2.2.1 j) np = xsum (fun i => G (30 + 9 * i + j - 1)) np := fun j h1 h9 => xsum_eq (fun i hi => by
    rw [(r6 i hi).2.2.2.1 j (by omega)]
    exact if_neg (by omega))
  refine ⟨fun j h1 h9 => ((hk.2.2.2.1 j (by omega)).1).trans (e1 j h1 h9), fun j h1 h9 => ((hk.2.2.2.1 j (by omega)).2).trans (xsum_eq (fun i hi => ?_)), e1⟩
  rw [(r6 i hi).2.2.2.2 j (by omega)]
  exact if_neg (by omega)
theorem ends_of {np no : Nat} {nn : Int32} {N sc : Nat} {ho : Int32} {TS TH : Nat → Int32} {pl : Nat → XPl} {q : Nat → XQu} (hk : OKc np no nn N sc ho TS TH pl q) : ∃ L U : Nat → Nat → Nat, ∀ i, i < no → endsE (q i).2.2.2 (q i).2.2.1 (L i) (U i) := by
  refine ⟨fun i r => nv ((q i).2.2.2 r).2.1, fun i r => nv ((q i).2.2.2 r).2.2.1, fun i hi r hr => ?_⟩
  obtain ⟨-, ⟨l, u, e1, e2, h1, h2⟩, -⟩ := (hk.2.1 i hi).2.2.2.1 r hr
  have n1 : nv ((q i).2.2.2 r).2.1 = l := nv_n e1 (by omega)
  have n2 : nv ((q i).2.2.2 r).2.2.1 = u := nv_n e2 (by omega)
  show ((q i).2.2.2 r).2.1 = nI (nv ((q i).2.2.2 r).2.1) ∧ ((q i).2.2.2 r).2.2.1 = nI (nv ((q i).2.2.2 r).2.2.1) ∧ nv ((q i).2.2.2 r).2.1 ≤ nv ((q i).2.2.2 r).2.2.1 ∧ nv ((q i).2.2.2 r).2.2.1 ≤ 999
  rw [n1, n2]
  exact ⟨e1, e2, h1, h2⟩
theorem conf_of {np no : Nat} {nn : Int32} {N sc : Nat} {ho : Int32} {TS TH : Nat → Int32} {pl : Nat → XPl} {q : Nat → XQu} {mn : Nat → Nat} (hk : OKc np no nn N sc ho TS TH pl q) (r7 : ∀ i, i < no → eqQ (q i) (gQ G mn i)) : (∀ i r, i < no → r < (q i).2.2.1 → xconf ((q i).2.2.2 r).2.2.2.1) ∧ ∀ i r, i < no → r < mn i → xconf (gE G i r).2.2.2.1 :=
  ⟨fun i r hi hr => ((hk.2.1 i hi).2.2.2.1 r hr).2.2.1, fun i r hi hr => (((hk.2.1 i hi).cg (r7 i hi).symm).2.2.2.1 r hr).2.2.1⟩
end LWQ
