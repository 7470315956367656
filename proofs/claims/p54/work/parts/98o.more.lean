/-! more calls: sums, shares, consistency, the written text -/
def Co (B : Nat) (G H Sv : Nat → Int32) (ch : Nat) (sv : Bool) (ea fa : Int32) (tn : Nat) (Bu : Nat → Int32) (on : Nat) (Le : Nat → Int32) (h : XH) : Prop := Ca B G H Sv ch sv ea fa tn Bu h ∧ SbX 809 h on Le ∧ on ≤ 100
theorem okW_of {np : Nat} (h5 : np ≤ 5) {e : XEst} (h : okEst np e) : okW e := by
  obtain ⟨⟨i, hi, e1⟩, ⟨l, u, e2, e3, h1, h2⟩, hc, -⟩ := h
  obtain ⟨j, j1, j9, e4⟩ := xconf_nI hc
  exact ⟨i, l, u, j, ⟨e1, by omega⟩, ⟨e2, by omega⟩, ⟨e3, by omega⟩, ⟨e4, by omega⟩⟩
theorem wrS_cong {E F : Nat → XEst} {s : XL} : ∀ {r : Nat}, (∀ k, k < r → E k = F k) → wrS E s r = wrS F s r
  | 0, _ => rfl
  | r + 1, h => by
    show wrE (E r) (wrS E s r) = wrE (F r) (wrS F s r)
    rw [wrS_cong (fun k hk => h k (by omega)), h r (Nat.lt_succ_self _)]
theorem ndg_le4 (v : Nat) : ndg v ≤ 4 := by
  unfold ndg
  split
  · omega
  · split
    · omega
    · split <;> omega
/-- what writeQuestion writes of the question at place i -/
def wrG (G : Nat → Int32) (i : Nat) : XL := wrS (gE G i) (wrA 119 (nv (G (126 + i))) (wrA 113 (nv (G (120 + i))) (0, zN))) (mnG G i)
section CO
variable {S : XSc} {d B : Nat} {h h2 : XH} {Q : XO → XH → Prop} {G H Sv : Nat → Int32} {ch : Nat} {sv : Bool} {ea fa : Int32} {tn : Nat} {Bu : Nat → Int32} {on : Nat} {Le : Nat → Int32}
theorem ka_94 (hC : Ca B G H Sv ch sv ea fa tn Bu h) (k : Q (.inl (some (.int (xsum (fun i => stkQ (gQ G (mnG G) i)) (noG G))))) h) : xP S (d + 7) 94 0 [(0, .ref 32)] [] h Q := by
  obtain ⟨pos, K, hX, hS, ⟨W, lo0, hi0, hCv⟩, ⟨p0, cc0, nu0, hT⟩, hZ, ⟨hKt, h8, ht, hB9⟩⟩ := id hC
  obtain ⟨nn, N, ho, TS, TH, tr, pl, q, s, R, hBd, hr, hk, hN, hs⟩ := hS.nm (by omega)
  obtain ⟨⟨⟨g0, g5⟩, ⟨g1, g6⟩, gm⟩, ⟨r1, r2, r3⟩, r5, r6, r7, r8⟩ := id hr
  have o0 := hX.1
  have hR : xsum (fun i => stkQ (q i)) (noG G) = xsum (fun i => stkQ (gQ G (mnG G) i)) (noG G) := xsum_eq (fun i hi => stkQ_eqQ (r7 i hi))
  refine xP_up (show d + 2 ≤ d + 7 by omega) (e_94 o0 hBd (by omega) ?_)
  rw [hR]
  exact k
theorem ka_116 (hC : Ca B G H Sv ch sv ea fa tn Bu h) {p : Int32} (hp : isPl (npG G) p) (hz : szP (gP G p.toNatClampNeg) ≠ 0) (k : Q (.inl (some (.double (FP.ddiv (FP.i2d (gP G p.toNatClampNeg).2.1) (FP.i2d (szP (gP G p.toNatClampNeg))))))) h) : xP S (d + 7) 116 0 [(0, .ref 32), (1, .int p)] [] h Q := by
  obtain ⟨pos, K, hX, hS, ⟨W, lo0, hi0, hCv⟩, ⟨p0, cc0, nu0, hT⟩, hZ, ⟨hKt, h8, ht, hB9⟩⟩ := id hC
  obtain ⟨nn, N, ho, TS, TH, tr, pl, q, s, R, hBd, hr, hk, hN, hs⟩ := hS.nm (by omega)
  obtain ⟨⟨⟨g0, g5⟩, ⟨g1, g6⟩, gm⟩, ⟨r1, r2, r3⟩, r5, r6, r7, r8⟩ := id hr
  have o0 := hX.1
  have e := r6 _ (isPl_i hp (by omega))
  refine xP_up (show d + 2 ≤ d + 7 by omega) (e_116 o0 hBd (by omega) (fun z9 => absurd hp z9) (fun z9 y9 => ?_) (fun z9 y9 => ?_))
  · rw [e.sz] at y9
    exact absurd y9 hz
  · rw [e.sz, e.2.1]
    exact k
theorem ka_123 (hC : Ca B G H Sv ch sv ea fa tn Bu h) {c : Int32} (hc : xconf c) (hz : xsum (fun i => G (30 + 9 * i + c.toNatClampNeg - 1)) (npG G) ≠ 0) (k : Q (.inl (some (.float (FP.fdiv (FP.i2f (xsum (fun i => G (75 + 9 * i + c.toNatClampNeg - 1)) (npG G))) (FP.i2f (xsum (fun i => G (30 + 9 * i + c.toNatClampNeg - 1)) (npG G))))))) h) : xP S (d + 7) 123 0 [(0, .ref 32), (1, .int c)] [] h Q := by
  obtain ⟨pos, K, hX, hS, ⟨W, lo0, hi0, hCv⟩, ⟨p0, cc0, nu0, hT⟩, hZ, ⟨hKt, h8, ht, hB9⟩⟩ := id hC
  obtain ⟨nn, N, ho, TS, TH, tr, pl, q, s, R, hBd, hr, hk, hN, hs⟩ := hS.nm (by omega)
  obtain ⟨⟨⟨g0, g5⟩, ⟨g1, g6⟩, gm⟩, ⟨r1, r2, r3⟩, r5, r6, r7, r8⟩ := id hr
  have o0 := hX.1
  have bs := binS_of (G := G) hk r6
  obtain ⟨j, j1, j9, e4⟩ := xconf_nI hc
  have ec : c.toNatClampNeg = j := by rw [e4]; exact nI_clamp (by omega)
  rw [ec] at hz k
  refine xP_up (show d + 2 ≤ d + 7 by omega) (e_123 o0 hBd (by omega) (fun z9 => absurd hc z9) (fun z9 y9 => ?_) (fun z9 y9 => ?_))
  · rw [ec, bs.1 j j1 j9] at y9
    exact absurd y9 hz
  · rw [ec, bs.1 j j1 j9, bs.2.1 j j1 j9]
    exact k
theorem ka_124 (hC : Ca B G H Sv ch sv ea fa tn Bu h) (k : ∀ h2, Ca B G H Sv ch sv ea fa tn Bu h2 → h2.2 = h.2 → Q (.inl (some (.int 1))) h2) : xP S (d + 7) 124 0 [(0, .ref 32)] [] h Q := by
  obtain ⟨pos, K, hX, hS, ⟨W, lo0, hi0, hCv⟩, ⟨p0, cc0, nu0, hT⟩, hZ, ⟨hKt, h8, ht, hB9⟩⟩ := id hC
  obtain ⟨nn, N, ho, TS, TH, tr, pl, q, s, R, hBd, hr, hk, hN, hs⟩ := hS.nm (by omega)
  obtain ⟨⟨⟨g0, g5⟩, ⟨g1, g6⟩, gm⟩, ⟨r1, r2, r3⟩, r5, r6, r7, r8⟩ := id hr
  have o0 := hX.1
  obtain ⟨L, U, hE⟩ := ends_of hk
  have hs1 : xacc (ho + xsum (fun i => stkQ (q i)) (noG G)) (fun i => (pl i).1) (npG G) = 100 * nI (npG G) := by
    rw [xacc_sum, ← hk.2.2.1]
    unfold sumC
    grind
  refine xP_up (show d + 5 ≤ d + 7 by omega) (e_124 o0 hBd (by omega) hCv (by omega) hE (Or.inl (by omega)) hs1 (fun j h1 h9 => (hk.2.2.2.1 j (by omega)).1) (fun f8 W8 lo8 hi8 c8 y8 => ?_))
  exact k _ (hC.q (h2 := (f8, h.2)) (fun x hx => y8 x (by omega)) ⟨_, _, _, c8⟩ (Or.inl rfl)) rfl
theorem ka_129 (hC : Ca B G H Sv ch sv ea fa tn Bu h) {n : Int32} (hn : pla (gQ G (mnG G)) (noG G) n < noG G) (k : ∀ h2, Co B G H Sv ch sv ea fa tn Bu (wrG G (pla (gQ G (mnG G)) (noG G) n)).1 (wrG G (pla (gQ G (mnG G)) (noG G) n)).2 h2 → h2.2.2.1 ≤ h.2.2.1 + 60 → h2.2.2.2 ≤ h.2.2.2 + 13200 → Q (.inl (some (.int (nI (wrG G (pla (gQ G (mnG G)) (noG G) n)).1)))) h2) : xP S (d + 7) 129 0 [(0, .ref 32), (1, .int n)] [] h Q := by
  obtain ⟨pos, K, hX, hS, ⟨W, lo0, hi0, hCv⟩, ⟨p0, cc0, nu0, hT⟩, ⟨on, Le, hZ, hon⟩, ⟨hKt, h8, ht, hB9⟩⟩ := id hC
  obtain ⟨nn, N, ho, TS, TH, tr, pl, q, s, R, hBd, hr, hk, hN, hs⟩ := hS.nm (by omega)
  obtain ⟨⟨⟨g0, g5⟩, ⟨g1, g6⟩, gm⟩, ⟨r1, r2, r3⟩, r5, r6, r7, r8⟩ := id hr
  have o0 := hX.1
  have ep : pla q (noG G) n = pla (gQ G (mnG G)) (noG G) n := pla_cong r7 n
  have hNq : ∀ j, j < noG G → ∃ v, v < 1000 ∧ (q j).1 = nI v := fun j hj => by
    obtain ⟨-, ⟨v, hv, e⟩, -⟩ := hk.2.1 j hj
    exact ⟨v, by omega, e⟩
  have hWq : ∀ j, j < noG G → ∃ v, v < 1000 ∧ (q j).2.1 = nI v := fun j hj => by
    obtain ⟨-, -, ⟨v, h1, h3, e⟩, -⟩ := hk.2.1 j hj
    exact ⟨v, by omega, e⟩
  have hEq : ∀ j, j < noG G → ∀ r, r < (q j).2.2.1 → okW ((q j).2.2.2 r) := fun j hj r hr2 => okW_of g5 ((hk.2.1 j hj).2.2.2.1 r hr2)
  have e7 := r7 _ hn
  have ew : wrS (q (pla q (noG G) n)).2.2.2 (wrA 119 (nv (q (pla q (noG G) n)).2.1) (wrA 113 (nv (q (pla q (noG G) n)).1) (0, zN))) (q (pla q (noG G) n)).2.2.1 = wrG G (pla (gQ G (mnG G)) (noG G) n) := by
    rw [ep, e7.1, e7.2.1, e7.2.2.1]
    exact wrS_cong e7.2.2.2
  have hlen : (wrG G (pla (gQ G (mnG G)) (noG G) n)).1 ≤ 100 := by
    have h16 := wrS_1 (s := wrA 119 (nv (q (pla q (noG G) n)).2.1) (wrA 113 (nv (q (pla q (noG G) n)).1) (0, zN))) (fun k hk2 => hEq _ (ep ▸ hn) k hk2)
    rw [ew, wrA_1, wrA_1] at h16
    have a1 := ndg_le4 (nv (q (pla q (noG G) n)).2.1)
    have a2 := ndg_le4 (nv (q (pla q (noG G) n)).1)
    have a3 := (hk.2.1 (pla q (noG G) n) (ep ▸ hn)).1
    dsimp only at h16
    omega
  refine xP_up (show d + 6 ≤ d + 7 by omega) (e_129 (Lo := zN) o0 hBd (by omega) (by omega) (by omega) (B0 := 809) (by omega) hZ hon hNq hWq hEq (fun z9 => absurd z9 (by rw [ep]; omega)) (fun z9 h9 Z9 u9 => ?_))
  rw [ew] at Z9 ⊢
  have e9 : ∀ x, x < 807 → h9.1 x = h.1 x := fun x hx => u9.1 x (by omega) (by omega) (by omega)
  exact k h9 ⟨⟨pos, K, hX.fr (fun x hx => e9 x (by omega)), hS.fr (fun x z1 z2 => e9 x (by omega)), ⟨W, lo0, hi0, hCv.fr (fun x z1 z2 => e9 x (by omega))⟩, ⟨p0, cc0, nu0, hT.fr (fun x z1 z2 => e9 x (by omega))⟩, ⟨_, _, Z9, hlen⟩, ⟨hKt, h8, ht, hB9⟩⟩, Z9, hlen⟩ u9.2.1 u9.2.2
theorem ka_130 (hC : Co B G H Sv ch sv ea fa tn Bu on Le h) {i : Nat} (hi : i < on) (k : Q (.inl (some (.int (Le i)))) h) : xP S (d + 7) 130 0 [(0, .ref 32), (1, .int (nI i))] [] h Q := by
  obtain ⟨⟨pos, K, hX, -⟩, hZ, hon⟩ := hC
  have o0 := hX.1
  refine xP_up (show d + 3 ≤ d + 7 by omega) (e_130 o0 hZ hon (fun z9 => absurd ⟨nI_pos' (by omega), nI_lt hi (by omega)⟩ z9) (fun j hj e => ?_))
  have e2 : i = j := by
    have := congrArg Int32.toNatClampNeg e
    rw [nI_clamp (by omega), nI_clamp (by omega)] at this
    exact this
  rw [← e2]
  exact k
end CO
section CP
variable {S : XSc} {d B b : Nat} {h : XH} {F : Nat → Prop} {Q : XO → XH → Prop} {G H Sv : Nat → Int32} {ch : Nat} {sv : Bool} {ea fa : Int32} {tn : Nat} {Bu : Nat → Int32} {on : Nat} {Le : Nat → Int32}
theorem qa_94 (A : AtC h b F (Ca B G H Sv ch sv ea fa tn Bu)) (k : ∀ h2 F2, AtC h2 b F2 (Ca B G H Sv ch sv ea fa tn Bu) → MvC h h2 F F2 0 0 → Q (.inl (some (.int (xsum (fun i => stkQ (gQ G (mnG G) i)) (noG G))))) h2) : yP S (d + 7) 94 0 [(0, .ref b)] [] h Q :=
  AtC.call (as := []) (P2 := fun o c9 => o = .inl (some (.int (xsum (fun i => stkQ (gQ G (mnG G) i)) (noG G)))) ∧ Ca B G H Sv ch sv ea fa tn Bu c9) (x := 0) (y := 0) (Or.inl (by decide)) A (noRn rfl) (fun c hC => ka_94 hC ⟨rfl, ⟨rfl, hC⟩, Nat.le_refl _, Nat.le_refl _⟩) (fun o h2 F2 A2 M2 => by obtain ⟨e, A3⟩ := A2.pure; rw [e]; exact k h2 F2 A3 M2)
theorem qa_116 (A : AtC h b F (Ca B G H Sv ch sv ea fa tn Bu)) {p : Int32} (hp : isPl (npG G) p) (hz : szP (gP G p.toNatClampNeg) ≠ 0) (k : ∀ h2 F2, AtC h2 b F2 (Ca B G H Sv ch sv ea fa tn Bu) → MvC h h2 F F2 0 0 → Q (.inl (some (.double (FP.ddiv (FP.i2d (gP G p.toNatClampNeg).2.1) (FP.i2d (szP (gP G p.toNatClampNeg))))))) h2) : yP S (d + 7) 116 0 [(0, .ref b), (1, .int p)] [] h Q :=
  AtC.call (as := [.int p]) (P2 := fun o c9 => o = .inl (some (.double (FP.ddiv (FP.i2d (gP G p.toNatClampNeg).2.1) (FP.i2d (szP (gP G p.toNatClampNeg)))))) ∧ Ca B G H Sv ch sv ea fa tn Bu c9) (x := 0) (y := 0) (Or.inl (by decide)) A (noRn rfl) (fun c hC => ka_116 hC hp hz ⟨rfl, ⟨rfl, hC⟩, Nat.le_refl _, Nat.le_refl _⟩) (fun o h2 F2 A2 M2 => by obtain ⟨e, A3⟩ := A2.pure; rw [e]; exact k h2 F2 A3 M2)
theorem qa_123 (A : AtC h b F (Ca B G H Sv ch sv ea fa tn Bu)) {c : Int32} (hc : xconf c) (hz : xsum (fun i => G (30 + 9 * i + c.toNatClampNeg - 1)) (npG G) ≠ 0) (k : ∀ h2 F2, AtC h2 b F2 (Ca B G H Sv ch sv ea fa tn Bu) → MvC h h2 F F2 0 0 → Q (.inl (some (.float (FP.fdiv (FP.i2f (xsum (fun i => G (75 + 9 * i + c.toNatClampNeg - 1)) (npG G))) (FP.i2f (xsum (fun i => G (30 + 9 * i + c.toNatClampNeg - 1)) (npG G))))))) h2) : yP S (d + 7) 123 0 [(0, .ref b), (1, .int c)] [] h Q :=
  AtC.call (as := [.int c]) (P2 := fun o c9 => o = .inl (some (.float (FP.fdiv (FP.i2f (xsum (fun i => G (75 + 9 * i + c.toNatClampNeg - 1)) (npG G))) (FP.i2f (xsum (fun i => G (30 + 9 * i + c.toNatClampNeg - 1)) (npG G)))))) ∧ Ca B G H Sv ch sv ea fa tn Bu c9) (x := 0) (y := 0) (Or.inl (by decide)) A (noRn rfl) (fun c9 hC => ka_123 hC hc hz ⟨rfl, ⟨rfl, hC⟩, Nat.le_refl _, Nat.le_refl _⟩) (fun o h2 F2 A2 M2 => by obtain ⟨e, A3⟩ := A2.pure; rw [e]; exact k h2 F2 A3 M2)
theorem qa_124 (A : AtC h b F (Ca B G H Sv ch sv ea fa tn Bu)) (k : ∀ h2 F2, AtC h2 b F2 (Ca B G H Sv ch sv ea fa tn Bu) → MvC h h2 F F2 0 0 → Q (.inl (some (.int 1))) h2) : yP S (d + 7) 124 0 [(0, .ref b)] [] h Q :=
  AtC.call (as := []) (P2 := fun o c9 => o = .inl (some (.int 1)) ∧ Ca B G H Sv ch sv ea fa tn Bu c9) (x := 0) (y := 0) (Or.inl (by decide)) A (noRn rfl) (fun c hC => ka_124 hC (fun c2 hC2 e2 => ⟨rfl, ⟨rfl, hC2⟩, by rw [e2]; exact Nat.le_refl _, by rw [e2]; exact Nat.le_refl _⟩)) (fun o h2 F2 A2 M2 => by obtain ⟨e, A3⟩ := A2.pure; rw [e]; exact k h2 F2 A3 M2)
theorem qa_129 (A : AtC h b F (Ca B G H Sv ch sv ea fa tn Bu)) {n : Int32} (hn : pla (gQ G (mnG G)) (noG G) n < noG G) (k : ∀ h2 F2, AtC h2 b F2 (Co B G H Sv ch sv ea fa tn Bu (wrG G (pla (gQ G (mnG G)) (noG G) n)).1 (wrG G (pla (gQ G (mnG G)) (noG G) n)).2) → MvC h h2 F F2 60 13200 → Q (.inl (some (.int (nI (wrG G (pla (gQ G (mnG G)) (noG G) n)).1)))) h2) : yP S (d + 7) 129 0 [(0, .ref b), (1, .int n)] [] h Q :=
  AtC.call (as := [.int n]) (P2 := fun o c9 => o = .inl (some (.int (nI (wrG G (pla (gQ G (mnG G)) (noG G) n)).1))) ∧ Co B G H Sv ch sv ea fa tn Bu (wrG G (pla (gQ G (mnG G)) (noG G) n)).1 (wrG G (pla (gQ G (mnG G)) (noG G) n)).2 c9) (x := 60) (y := 13200) (Or.inl (by decide)) A (noRn rfl) (fun c hC => ka_129 hC hn (fun c2 hC2 e2 e3 => ⟨rfl, ⟨rfl, hC2⟩, e2, e3⟩)) (fun o h2 F2 A2 M2 => by obtain ⟨e, A3⟩ := A2.pure; rw [e]; exact k h2 F2 A3 M2)
theorem qa_130 (A : AtC h b F (Co B G H Sv ch sv ea fa tn Bu on Le)) {i : Nat} (hi : i < on) (k : ∀ h2 F2, AtC h2 b F2 (Co B G H Sv ch sv ea fa tn Bu on Le) → MvC h h2 F F2 0 0 → Q (.inl (some (.int (Le i)))) h2) : yP S (d + 7) 130 0 [(0, .ref b), (1, .int (nI i))] [] h Q :=
  AtC.call (as := [.int (nI i)]) (P2 := fun o c9 => o = .inl (some (.int (Le i))) ∧ Co B G H Sv ch sv ea fa tn Bu on Le c9) (x := 0) (y := 0) (Or.inl (by decide)) A (noRn rfl) (fun c hC => ka_130 hC hi ⟨rfl, ⟨rfl, hC⟩, Nat.le_refl _, Nat.le_refl _⟩) (fun o h2 F2 A2 M2 => by obtain ⟨e, A3⟩ := A2.pure; rw [e]; exact k h2 F2 A3 M2)
end CP
