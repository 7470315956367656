/-! a contest in a heap of its own: what it shows, and every call on it -/
def Ca (B : Nat) (G H Sv : Nat → Int32) (ch : Nat) (sv : Bool) (ea fa : Int32) (tn : Nat) (Bu : Nat → Int32) (h : XH) : Prop := ∃ pos K, CoX h.1 H Sv pos ch sv K ea fa ∧ Sim h.1 33 G K ∧ (∃ W lo hi, CvP h.1 794 W lo hi) ∧ (∃ p cc nu, TxP h.1 804 tn p cc Bu nu) ∧ (∃ on Le, SbX 809 h on Le ∧ on ≤ 100) ∧ (K + tn ≤ B ∧ ch ≤ 8 ∧ tn ≤ 60 ∧ B ≤ 1000)
/-- what a row G stands for -/
theorem Sim.nm {f : Nat → Option XE} {b K : Nat} {G : Nat → Int32} (h : Sim f b G K) (hK : K ≤ 1000) : ∃ nn N ho TS TH tr pl q s R, BdP f b (npG G) (noG G) nn (scG G) ho TS TH tr pl q s R ∧ RG G (mnG G) (npG G) (noG G) nn (scG G) ho tr pl q ∧ OKc (npG G) (noG G) nn N (scG G) ho TS TH pl q ∧ N ≤ K ∧ scG G ≤ K := by
  obtain ⟨mn, np, no, nn, N, sc, ho, TS, TH, tr, pl, q, s, R, hB, hr, hk, hN, hs⟩ := h
  obtain ⟨hr2, e1, e2, e3⟩ := hr.nm (by omega)
  rw [e1, e2, e3]
  exact ⟨nn, N, ho, TS, TH, tr, pl, q, s, R, hB, hr2, hk, hN, hs⟩
theorem hitN_cong {E F : Nat → XEst} {t : Int32} : ∀ {n : Nat}, (∀ r, r < n → E r = F r) → hitN E t n = hitN F t n
  | 0, _ => rfl
  | n + 1, h => by rw [hitN_s, hitN_s, hitN_cong (n := n) (fun r hr => h r (by omega)), h n (by omega)]
theorem hasQ_eqQ {x y : XQu} (h : eqQ x y) (p : Int32) : hasQ p x = hasQ p y := by
  unfold hasQ
  rw [rnk_cong h, h.2.2.1]
section CA
variable {S : XSc} {d B : Nat} {h h2 : XH} {Q : XO → XH → Prop} {G H Sv : Nat → Int32} {ch : Nat} {sv : Bool} {ea fa : Int32} {tn : Nat} {Bu : Nat → Int32}
theorem Ca.up {B2 : Nat} (hC : Ca B G H Sv ch sv ea fa tn Bu h) (hb : B ≤ B2) (hb2 : B2 ≤ 1000) : Ca B2 G H Sv ch sv ea fa tn Bu h := by
  obtain ⟨pos, K, c1, c2, c3, c4, c5, c6⟩ := hC
  exact ⟨pos, K, c1, c2, c3, c4, c5, by omega, c6.2.1, c6.2.2.1, hb2⟩
theorem Ca.o (hC : Ca B G H Sv ch sv ea fa tn Bu h) : ∃ fs, h.1 32 = some (.inr (8, fs)) := by
  obtain ⟨pos, K, c1, -⟩ := hC
  exact ⟨_, c1.1⟩
/-- a call that only answers, but for the coverage's rows -/
theorem Ca.q (hC : Ca B G H Sv ch sv ea fa tn Bu h) (e : ∀ x, x < 794 ∨ 804 ≤ x → h2.1 x = h.1 x) (hW : ∃ W lo hi, CvP h2.1 794 W lo hi) (hB : h2.2 = h.2 ∨ h2.2 = (xbump h).2) : Ca B G H Sv ch sv ea fa tn Bu h2 := by
  obtain ⟨pos, K, c1, c2, -, ⟨p, cc, nu, c4⟩, ⟨on, Le, c5, c7⟩, c6⟩ := hC
  exact ⟨pos, K, c1.fr (fun x hx => e x (by omega)), c2.fr (fun x h1 h2 => e x (by omega)), hW, ⟨p, cc, nu, c4.fr (fun x h1 h2 => e x (by omega))⟩, ⟨on, Le, c5.fr (fun x hx => e x (by omega)) hB, c7⟩, c6⟩
theorem Ca.bump (hC : Ca B G H Sv ch sv ea fa tn Bu h) : Ca B G H Sv ch sv ea fa tn Bu (xbump h) := hC.q (h2 := xbump h) (fun _ _ => rfl) (by obtain ⟨pos, K, c1, c2, c3, -⟩ := hC; exact c3) (Or.inr rfl)
/-- a call that changes something -/
theorem Ca.p (hC : Ca B G H Sv ch sv ea fa tn Bu h) {G2 H2 Sv2 : Nat → Int32} {pos2 ch2 : Nat} {sv2 : Bool} {K2 : Nat} {ea2 fa2 : Int32} {tn2 : Nat} {Bu2 : Nat → Int32} {B2 : Nat} (hX : CoX h2.1 H2 Sv2 pos2 ch2 sv2 K2 ea2 fa2) (hS : Sim h2.1 33 G2 K2) (hT : ∃ p cc nu, TxP h2.1 804 tn2 p cc Bu2 nu) (e : ∀ x, (794 ≤ x ∧ x < 804) ∨ x = 807 ∨ x = 808 ∨ 809 ≤ x → h2.1 x = h.1 x) (hB : h2.2 = h.2 ∨ h2.2 = (xbump h).2) (hK : K2 + tn2 ≤ B2 ∧ B2 ≤ 1000) (h8 : ch2 ≤ 8) (ht : tn2 ≤ 60) : Ca B2 G2 H2 Sv2 ch2 sv2 ea2 fa2 tn2 Bu2 h2 := by
  obtain ⟨pos, K, c1, c2, ⟨W, lo, hi, c3⟩, -, ⟨on, Le, c5, c7⟩, c6⟩ := hC
  exact ⟨pos2, K2, hX, hS, ⟨W, lo, hi, c3.fr (fun x h1 h2 => e x (by omega))⟩, hT, ⟨on, Le, c5.fr (fun x hx => e x (by omega)) hB, c7⟩, hK.1, h8, ht, hK.2⟩
theorem ka_91 (hC : Ca B G H Sv ch sv ea fa tn Bu h) {p : Int32} (hz : ((R_pl (npG G) p (fun i => ((gP G) i).1))).1 = 0) (k : ∀ h2, Ca B G H Sv ch sv ea fa tn Bu h2 → h2.2 = h.2 → Q (.inl (some (.int ((R_pl (npG G) p (fun i => ((gP G) i).1))).2))) h2) : xP S (d + 7) 91 0 [(0, .ref 32), (1, .int p)] [] h Q := by
  obtain ⟨pos, K, hX, hS, ⟨W, lo0, hi0, hCv⟩, ⟨p0, cc0, nu0, hT⟩, hZ, ⟨hKt, h8, ht, hB9⟩⟩ := id hC
  obtain ⟨nn, N, ho, TS, TH, tr, pl, q, s, R, hBd, hr, hk, hN, hs⟩ := hS.nm (by omega)
  obtain ⟨⟨⟨g0, g5⟩, ⟨g1, g6⟩, gm⟩, ⟨r1, r2, r3⟩, r5, r6, r7, r8⟩ := id hr
  have o0 := hX.1
  have hR : (R_pl (npG G) p (fun i => (pl i).1)) = (R_pl (npG G) p (fun i => ((gP G) i).1)) := R_pl_cong (by omega) (fun i hi => (r6 i hi).1) _
  refine xP_up (show d + 2 ≤ d + 7 by omega) (e_91 o0 hBd (by omega) (fun z9 => ?_) (fun z9 => ?_))
  · rw [hR]
    exact k _ (hC.q (h2 := h) (fun _ _ => rfl) ⟨_, _, _, hCv⟩ (Or.inl rfl)) rfl
  · rw [hR, hz] at z9; cases z9
theorem ka_92 (hC : Ca B G H Sv ch sv ea fa tn Bu h) {p : Int32} (hz : ((R_pl (npG G) p (fun i => bI ((gP G) i).2.2.1))).1 = 0) (k : ∀ h2, Ca B G H Sv ch sv ea fa tn Bu h2 → h2.2 = h.2 → Q (.inl (some (.int ((R_pl (npG G) p (fun i => bI ((gP G) i).2.2.1))).2))) h2) : xP S (d + 7) 92 0 [(0, .ref 32), (1, .int p)] [] h Q := by
  obtain ⟨pos, K, hX, hS, ⟨W, lo0, hi0, hCv⟩, ⟨p0, cc0, nu0, hT⟩, hZ, ⟨hKt, h8, ht, hB9⟩⟩ := id hC
  obtain ⟨nn, N, ho, TS, TH, tr, pl, q, s, R, hBd, hr, hk, hN, hs⟩ := hS.nm (by omega)
  obtain ⟨⟨⟨g0, g5⟩, ⟨g1, g6⟩, gm⟩, ⟨r1, r2, r3⟩, r5, r6, r7, r8⟩ := id hr
  have o0 := hX.1
  have hR : (R_pl (npG G) p (fun i => bI (pl i).2.2.1)) = (R_pl (npG G) p (fun i => bI ((gP G) i).2.2.1)) := R_pl_cong (by omega) (fun i hi => congrArg bI (r6 i hi).2.2.1) _
  refine xP_up (show d + 2 ≤ d + 7 by omega) (e_92 o0 hBd (by omega) (fun z9 => ?_) (fun z9 => ?_))
  · rw [hR]
    exact k _ (hC.q (h2 := h) (fun _ _ => rfl) ⟨_, _, _, hCv⟩ (Or.inl rfl)) rfl
  · rw [hR, hz] at z9; cases z9
theorem ka_96 (hC : Ca B G H Sv ch sv ea fa tn Bu h) {p : Int32} (hz : ((R_pl (noG G) p (fun i => ((gQ G (mnG G)) i).1))).1 = 0) (k : ∀ h2, Ca B G H Sv ch sv ea fa tn Bu h2 → h2.2 = h.2 → Q (.inl (some (.int ((R_pl (noG G) p (fun i => ((gQ G (mnG G)) i).1))).2))) h2) : xP S (d + 7) 96 0 [(0, .ref 32), (1, .int p)] [] h Q := by
  obtain ⟨pos, K, hX, hS, ⟨W, lo0, hi0, hCv⟩, ⟨p0, cc0, nu0, hT⟩, hZ, ⟨hKt, h8, ht, hB9⟩⟩ := id hC
  obtain ⟨nn, N, ho, TS, TH, tr, pl, q, s, R, hBd, hr, hk, hN, hs⟩ := hS.nm (by omega)
  obtain ⟨⟨⟨g0, g5⟩, ⟨g1, g6⟩, gm⟩, ⟨r1, r2, r3⟩, r5, r6, r7, r8⟩ := id hr
  have o0 := hX.1
  have hR : (R_pl (noG G) p (fun i => (q i).1)) = (R_pl (noG G) p (fun i => ((gQ G (mnG G)) i).1)) := R_pl_cong (by omega) (fun i hi => (r7 i hi).1) _
  refine xP_up (show d + 0 ≤ d + 7 by omega) (e_96 o0 hBd (by omega) (fun z9 => ?_) (fun z9 => ?_))
  · rw [hR]
    exact k _ (hC.q (h2 := h) (fun _ _ => rfl) ⟨_, _, _, hCv⟩ (Or.inl rfl)) rfl
  · rw [hR, hz] at z9; cases z9
theorem ka_97 (hC : Ca B G H Sv ch sv ea fa tn Bu h) {n : Int32} (hz : ((if pla (gQ G (mnG G)) (noG G) n < (noG G) then ((0, nI (pla (gQ G (mnG G)) (noG G) n)) : XR) else (1, 0))).1 = 0) (k : ∀ h2, Ca B G H Sv ch sv ea fa tn Bu h2 → h2.2 = h.2 → Q (.inl (some (.int ((if pla (gQ G (mnG G)) (noG G) n < (noG G) then ((0, nI (pla (gQ G (mnG G)) (noG G) n)) : XR) else (1, 0))).2))) h2) : xP S (d + 7) 97 0 [(0, .ref 32), (1, .int n)] [] h Q := by
  obtain ⟨pos, K, hX, hS, ⟨W, lo0, hi0, hCv⟩, ⟨p0, cc0, nu0, hT⟩, hZ, ⟨hKt, h8, ht, hB9⟩⟩ := id hC
  obtain ⟨nn, N, ho, TS, TH, tr, pl, q, s, R, hBd, hr, hk, hN, hs⟩ := hS.nm (by omega)
  obtain ⟨⟨⟨g0, g5⟩, ⟨g1, g6⟩, gm⟩, ⟨r1, r2, r3⟩, r5, r6, r7, r8⟩ := id hr
  have o0 := hX.1
  have hR : (if pla q (noG G) n < (noG G) then ((0, nI (pla q (noG G) n)) : XR) else (1, 0)) = (if pla (gQ G (mnG G)) (noG G) n < (noG G) then ((0, nI (pla (gQ G (mnG G)) (noG G) n)) : XR) else (1, 0)) := by rw [pla_cong r7 _]
  refine xP_up (show d + 1 ≤ d + 7 by omega) (e_97 o0 hBd (by omega) (fun z9 => ?_) (fun z9 => ?_))
  · rw [hR]
    exact k _ (hC.q (h2 := h) (fun _ _ => rfl) ⟨_, _, _, hCv⟩ (Or.inl rfl)) rfl
  · rw [hR, hz] at z9; cases z9
theorem ka_98 (hC : Ca B G H Sv ch sv ea fa tn Bu h) {n : Int32} (hz : ((R_q (gQ G (mnG G)) (noG G) n (fun q => q.2.1))).1 = 0) (k : ∀ h2, Ca B G H Sv ch sv ea fa tn Bu h2 → h2.2 = h.2 → Q (.inl (some (.int ((R_q (gQ G (mnG G)) (noG G) n (fun q => q.2.1))).2))) h2) : xP S (d + 7) 98 0 [(0, .ref 32), (1, .int n)] [] h Q := by
  obtain ⟨pos, K, hX, hS, ⟨W, lo0, hi0, hCv⟩, ⟨p0, cc0, nu0, hT⟩, hZ, ⟨hKt, h8, ht, hB9⟩⟩ := id hC
  obtain ⟨nn, N, ho, TS, TH, tr, pl, q, s, R, hBd, hr, hk, hN, hs⟩ := hS.nm (by omega)
  obtain ⟨⟨⟨g0, g5⟩, ⟨g1, g6⟩, gm⟩, ⟨r1, r2, r3⟩, r5, r6, r7, r8⟩ := id hr
  have o0 := hX.1
  have hR : (R_q q (noG G) n (fun q => q.2.1)) = (R_q (gQ G (mnG G)) (noG G) n (fun q => q.2.1)) := R_q_cong r7 (fun x y h => h.2.1) _
  refine xP_up (show d + 2 ≤ d + 7 by omega) (e_98 o0 hBd (by omega) (fun z9 => ?_) (fun z9 => ?_))
  · rw [hR]
    exact k _ (hC.q (h2 := h) (fun _ _ => rfl) ⟨_, _, _, hCv⟩ (Or.inl rfl)) rfl
  · rw [hR, hz] at z9; cases z9
theorem ka_99 (hC : Ca B G H Sv ch sv ea fa tn Bu h) {n : Int32} (hz : ((R_q (gQ G (mnG G)) (noG G) n (fun q => nI q.2.2.1))).1 = 0) (k : ∀ h2, Ca B G H Sv ch sv ea fa tn Bu h2 → h2.2 = h.2 → Q (.inl (some (.int ((R_q (gQ G (mnG G)) (noG G) n (fun q => nI q.2.2.1))).2))) h2) : xP S (d + 7) 99 0 [(0, .ref 32), (1, .int n)] [] h Q := by
  obtain ⟨pos, K, hX, hS, ⟨W, lo0, hi0, hCv⟩, ⟨p0, cc0, nu0, hT⟩, hZ, ⟨hKt, h8, ht, hB9⟩⟩ := id hC
  obtain ⟨nn, N, ho, TS, TH, tr, pl, q, s, R, hBd, hr, hk, hN, hs⟩ := hS.nm (by omega)
  obtain ⟨⟨⟨g0, g5⟩, ⟨g1, g6⟩, gm⟩, ⟨r1, r2, r3⟩, r5, r6, r7, r8⟩ := id hr
  have o0 := hX.1
  have hR : (R_q q (noG G) n (fun q => nI q.2.2.1)) = (R_q (gQ G (mnG G)) (noG G) n (fun q => nI q.2.2.1)) := R_q_cong r7 (fun x y h => congrArg nI h.2.2.1) _
  refine xP_up (show d + 2 ≤ d + 7 by omega) (e_99 o0 hBd (by omega) (fun z9 => ?_) (fun z9 => ?_))
  · rw [hR]
    exact k _ (hC.q (h2 := h) (fun _ _ => rfl) ⟨_, _, _, hCv⟩ (Or.inl rfl)) rfl
  · rw [hR, hz] at z9; cases z9
theorem ka_100 (hC : Ca B G H Sv ch sv ea fa tn Bu h) {n r : Int32} (hz : ((R_est (gQ G (mnG G)) (noG G) n r)).1 = 0) (k : ∀ h2, Ca B G H Sv ch sv ea fa tn Bu h2 → h2.2 = h.2 → Q (.inl (some (.int ((R_est (gQ G (mnG G)) (noG G) n r)).2))) h2) : xP S (d + 7) 100 0 [(0, .ref 32), (1, .int n), (2, .int r)] [] h Q := by
  obtain ⟨pos, K, hX, hS, ⟨W, lo0, hi0, hCv⟩, ⟨p0, cc0, nu0, hT⟩, hZ, ⟨hKt, h8, ht, hB9⟩⟩ := id hC
  obtain ⟨nn, N, ho, TS, TH, tr, pl, q, s, R, hBd, hr, hk, hN, hs⟩ := hS.nm (by omega)
  obtain ⟨⟨⟨g0, g5⟩, ⟨g1, g6⟩, gm⟩, ⟨r1, r2, r3⟩, r5, r6, r7, r8⟩ := id hr
  have o0 := hX.1
  have hR : (R_est q (noG G) n r) = (R_est (gQ G (mnG G)) (noG G) n r) := R_est_cong r7 (fun i hi => (gm i (by omega)).2) _ _
  refine xP_up (show d + 2 ≤ d + 7 by omega) (e_100 o0 hBd (by omega) (fun z9 => ?_) (fun z9 => ?_) (fun z9 => ?_))
  · rw [hR]
    exact k _ (hC.q (h2 := h) (fun _ _ => rfl) ⟨_, _, _, hCv⟩ (Or.inl rfl)) rfl
  · rw [hR, hz] at z9; cases z9
  · rw [hR, hz] at z9; cases z9
theorem ka_102 (hC : Ca B G H Sv ch sv ea fa tn Bu h) {p n : Int32} (hz : ((R_fld (npG G) (gQ G (mnG G)) (noG G) p n (fun e => e.2.1))).1 = 0) (k : ∀ h2, Ca B G H Sv ch sv ea fa tn Bu h2 → h2.2 = h.2 → Q (.inl (some (.int ((R_fld (npG G) (gQ G (mnG G)) (noG G) p n (fun e => e.2.1))).2))) h2) : xP S (d + 7) 102 0 [(0, .ref 32), (1, .int p), (2, .int n)] [] h Q := by
  obtain ⟨pos, K, hX, hS, ⟨W, lo0, hi0, hCv⟩, ⟨p0, cc0, nu0, hT⟩, hZ, ⟨hKt, h8, ht, hB9⟩⟩ := id hC
  obtain ⟨nn, N, ho, TS, TH, tr, pl, q, s, R, hBd, hr, hk, hN, hs⟩ := hS.nm (by omega)
  obtain ⟨⟨⟨g0, g5⟩, ⟨g1, g6⟩, gm⟩, ⟨r1, r2, r3⟩, r5, r6, r7, r8⟩ := id hr
  have o0 := hX.1
  have hR : (R_fld (npG G) q (noG G) p n (fun e => e.2.1)) = (R_fld (npG G) (gQ G (mnG G)) (noG G) p n (fun e => e.2.1)) := R_fld_cong r7 _ _ _ _
  refine xP_up (show d + 3 ≤ d + 7 by omega) (e_102 o0 hBd (by omega) (fun z9 => ?_) (fun z9 => ?_) (fun z9 => ?_))
  · rw [hR]
    exact k _ (hC.q (h2 := h) (fun _ _ => rfl) ⟨_, _, _, hCv⟩ (Or.inl rfl)) rfl
  · rw [hR, hz] at z9; cases z9
  · rw [hR, hz] at z9; cases z9
theorem ka_103 (hC : Ca B G H Sv ch sv ea fa tn Bu h) {p n : Int32} (hz : ((R_fld (npG G) (gQ G (mnG G)) (noG G) p n (fun e => e.2.2.1))).1 = 0) (k : ∀ h2, Ca B G H Sv ch sv ea fa tn Bu h2 → h2.2 = h.2 → Q (.inl (some (.int ((R_fld (npG G) (gQ G (mnG G)) (noG G) p n (fun e => e.2.2.1))).2))) h2) : xP S (d + 7) 103 0 [(0, .ref 32), (1, .int p), (2, .int n)] [] h Q := by
  obtain ⟨pos, K, hX, hS, ⟨W, lo0, hi0, hCv⟩, ⟨p0, cc0, nu0, hT⟩, hZ, ⟨hKt, h8, ht, hB9⟩⟩ := id hC
  obtain ⟨nn, N, ho, TS, TH, tr, pl, q, s, R, hBd, hr, hk, hN, hs⟩ := hS.nm (by omega)
  obtain ⟨⟨⟨g0, g5⟩, ⟨g1, g6⟩, gm⟩, ⟨r1, r2, r3⟩, r5, r6, r7, r8⟩ := id hr
  have o0 := hX.1
  have hR : (R_fld (npG G) q (noG G) p n (fun e => e.2.2.1)) = (R_fld (npG G) (gQ G (mnG G)) (noG G) p n (fun e => e.2.2.1)) := R_fld_cong r7 _ _ _ _
  refine xP_up (show d + 3 ≤ d + 7 by omega) (e_103 o0 hBd (by omega) (fun z9 => ?_) (fun z9 => ?_) (fun z9 => ?_))
  · rw [hR]
    exact k _ (hC.q (h2 := h) (fun _ _ => rfl) ⟨_, _, _, hCv⟩ (Or.inl rfl)) rfl
  · rw [hR, hz] at z9; cases z9
  · rw [hR, hz] at z9; cases z9
theorem ka_104 (hC : Ca B G H Sv ch sv ea fa tn Bu h) {p n : Int32} (hz : ((R_fld (npG G) (gQ G (mnG G)) (noG G) p n (fun e => e.2.2.2.1))).1 = 0) (k : ∀ h2, Ca B G H Sv ch sv ea fa tn Bu h2 → h2.2 = h.2 → Q (.inl (some (.int ((R_fld (npG G) (gQ G (mnG G)) (noG G) p n (fun e => e.2.2.2.1))).2))) h2) : xP S (d + 7) 104 0 [(0, .ref 32), (1, .int p), (2, .int n)] [] h Q := by
  obtain ⟨pos, K, hX, hS, ⟨W, lo0, hi0, hCv⟩, ⟨p0, cc0, nu0, hT⟩, hZ, ⟨hKt, h8, ht, hB9⟩⟩ := id hC
  obtain ⟨nn, N, ho, TS, TH, tr, pl, q, s, R, hBd, hr, hk, hN, hs⟩ := hS.nm (by omega)
  obtain ⟨⟨⟨g0, g5⟩, ⟨g1, g6⟩, gm⟩, ⟨r1, r2, r3⟩, r5, r6, r7, r8⟩ := id hr
  have o0 := hX.1
  have hR : (R_fld (npG G) q (noG G) p n (fun e => e.2.2.2.1)) = (R_fld (npG G) (gQ G (mnG G)) (noG G) p n (fun e => e.2.2.2.1)) := R_fld_cong r7 _ _ _ _
  refine xP_up (show d + 3 ≤ d + 7 by omega) (e_104 o0 hBd (by omega) (fun z9 => ?_) (fun z9 => ?_) (fun z9 => ?_))
  · rw [hR]
    exact k _ (hC.q (h2 := h) (fun _ _ => rfl) ⟨_, _, _, hCv⟩ (Or.inl rfl)) rfl
  · rw [hR, hz] at z9; cases z9
  · rw [hR, hz] at z9; cases z9
theorem ka_105 (hC : Ca B G H Sv ch sv ea fa tn Bu h) {p n : Int32} (hz : ((R_fld (npG G) (gQ G (mnG G)) (noG G) p n (fun e => e.2.2.2.2))).1 = 0) (k : ∀ h2, Ca B G H Sv ch sv ea fa tn Bu h2 → h2.2 = h.2 → Q (.inl (some (.int ((R_fld (npG G) (gQ G (mnG G)) (noG G) p n (fun e => e.2.2.2.2))).2))) h2) : xP S (d + 7) 105 0 [(0, .ref 32), (1, .int p), (2, .int n)] [] h Q := by
  obtain ⟨pos, K, hX, hS, ⟨W, lo0, hi0, hCv⟩, ⟨p0, cc0, nu0, hT⟩, hZ, ⟨hKt, h8, ht, hB9⟩⟩ := id hC
  obtain ⟨nn, N, ho, TS, TH, tr, pl, q, s, R, hBd, hr, hk, hN, hs⟩ := hS.nm (by omega)
  obtain ⟨⟨⟨g0, g5⟩, ⟨g1, g6⟩, gm⟩, ⟨r1, r2, r3⟩, r5, r6, r7, r8⟩ := id hr
  have o0 := hX.1
  have hR : (R_fld (npG G) q (noG G) p n (fun e => e.2.2.2.2)) = (R_fld (npG G) (gQ G (mnG G)) (noG G) p n (fun e => e.2.2.2.2)) := R_fld_cong r7 _ _ _ _
  refine xP_up (show d + 3 ≤ d + 7 by omega) (e_105 o0 hBd (by omega) (fun z9 => ?_) (fun z9 => ?_) (fun z9 => ?_))
  · rw [hR]
    exact k _ (hC.q (h2 := h) (fun _ _ => rfl) ⟨_, _, _, hCv⟩ (Or.inl rfl)) rfl
  · rw [hR, hz] at z9; cases z9
  · rw [hR, hz] at z9; cases z9
theorem ka_106 (hC : Ca B G H Sv ch sv ea fa tn Bu h) {p n : Int32} (hz : ((R_fld (npG G) (gQ G (mnG G)) (noG G) p n xprize)).1 = 0) (k : ∀ h2, Ca B G H Sv ch sv ea fa tn Bu h2 → h2.2 = h.2 → Q (.inl (some (.int ((R_fld (npG G) (gQ G (mnG G)) (noG G) p n xprize)).2))) h2) : xP S (d + 7) 106 0 [(0, .ref 32), (1, .int p), (2, .int n)] [] h Q := by
  obtain ⟨pos, K, hX, hS, ⟨W, lo0, hi0, hCv⟩, ⟨p0, cc0, nu0, hT⟩, hZ, ⟨hKt, h8, ht, hB9⟩⟩ := id hC
  obtain ⟨nn, N, ho, TS, TH, tr, pl, q, s, R, hBd, hr, hk, hN, hs⟩ := hS.nm (by omega)
  obtain ⟨⟨⟨g0, g5⟩, ⟨g1, g6⟩, gm⟩, ⟨r1, r2, r3⟩, r5, r6, r7, r8⟩ := id hr
  have o0 := hX.1
  have hR : (R_fld (npG G) q (noG G) p n xprize) = (R_fld (npG G) (gQ G (mnG G)) (noG G) p n xprize) := R_fld_cong r7 _ _ _ _
  refine xP_up (show d + 3 ≤ d + 7 by omega) (e_106 o0 hBd (by omega) (conf_of hk r7).1 (fun z9 => ?_) (fun z9 => ?_) (fun z9 => ?_))
  · rw [hR]
    exact k _ (hC.q (h2 := h) (fun _ _ => rfl) ⟨_, _, _, hCv⟩ (Or.inl rfl)) rfl
  · rw [hR, hz] at z9; cases z9
  · rw [hR, hz] at z9; cases z9
theorem ka_107 (hC : Ca B G H Sv ch sv ea fa tn Bu h) {n v : Int32} (hz : ((R_cov (gQ G (mnG G)) (noG G) n v)).1 = 0) (k : ∀ h2, Ca B G H Sv ch sv ea fa tn Bu h2 → h2.2 = h.2 → Q (.inl (some (.int ((R_cov (gQ G (mnG G)) (noG G) n v)).2))) h2) : xP S (d + 7) 107 0 [(0, .ref 32), (1, .int n), (2, .int v)] [] h Q := by
  obtain ⟨pos, K, hX, hS, ⟨W, lo0, hi0, hCv⟩, ⟨p0, cc0, nu0, hT⟩, hZ, ⟨hKt, h8, ht, hB9⟩⟩ := id hC
  obtain ⟨nn, N, ho, TS, TH, tr, pl, q, s, R, hBd, hr, hk, hN, hs⟩ := hS.nm (by omega)
  obtain ⟨⟨⟨g0, g5⟩, ⟨g1, g6⟩, gm⟩, ⟨r1, r2, r3⟩, r5, r6, r7, r8⟩ := id hr
  have o0 := hX.1
  have hR : (R_cov q (noG G) n v) = (R_cov (gQ G (mnG G)) (noG G) n v) := R_cov_cong r7 _ _
  refine xP_up (show d + 2 ≤ d + 7 by omega) (e_107 o0 hBd (by omega) (fun z9 => ?_) (fun z9 => ?_) (fun z9 => ?_))
  · rw [hR]
    exact k _ (hC.q (h2 := h) (fun _ _ => rfl) ⟨_, _, _, hCv⟩ (Or.inl rfl)) rfl
  · rw [hR, hz] at z9; cases z9
  · rw [hR, hz] at z9; cases z9
theorem ka_108 (hC : Ca B G H Sv ch sv ea fa tn Bu h) {n : Int32} (hz : ((R_mst (gQ G (mnG G)) (noG G) n)).1 = 0) (k : ∀ h2, Ca B G H Sv ch sv ea fa tn Bu h2 → h2.2 = h.2 → Q (.inl (some (.int ((R_mst (gQ G (mnG G)) (noG G) n)).2))) h2) : xP S (d + 7) 108 0 [(0, .ref 32), (1, .int n)] [] h Q := by
  obtain ⟨pos, K, hX, hS, ⟨W, lo0, hi0, hCv⟩, ⟨p0, cc0, nu0, hT⟩, hZ, ⟨hKt, h8, ht, hB9⟩⟩ := id hC
  obtain ⟨nn, N, ho, TS, TH, tr, pl, q, s, R, hBd, hr, hk, hN, hs⟩ := hS.nm (by omega)
  obtain ⟨⟨⟨g0, g5⟩, ⟨g1, g6⟩, gm⟩, ⟨r1, r2, r3⟩, r5, r6, r7, r8⟩ := id hr
  have o0 := hX.1
  obtain ⟨L, U, hE⟩ := ends_of hk
  have hR : (R_mst q (noG G) n) = (R_mst (gQ G (mnG G)) (noG G) n) := R_mst_cong r7 _
  refine xP_up (show d + 4 ≤ d + 7 by omega) (e_108 o0 hBd (by omega) hCv (by omega) hE (fun f8 W8 lo8 hi8 c8 y8 z9 => ?_) (fun z9 => ?_))
  · rw [hR]
    exact k _ (hC.q (h2 := (f8, h.2)) (fun x hx => y8 x (by omega)) ⟨_, _, _, c8⟩ (Or.inl rfl)) rfl
  · rw [hR, hz] at z9; cases z9
theorem ka_109 (hC : Ca B G H Sv ch sv ea fa tn Bu h) {n : Int32} (hz : ((R_mst (gQ G (mnG G)) (noG G) n)).1 = 0) (k : ∀ h2, Ca B G H Sv ch sv ea fa tn Bu h2 → h2.2 = h.2 → Q (.inl (some (.int ((R_mst (gQ G (mnG G)) (noG G) n)).2))) h2) : xP S (d + 7) 109 0 [(0, .ref 32), (1, .int n)] [] h Q := by
  obtain ⟨pos, K, hX, hS, ⟨W, lo0, hi0, hCv⟩, ⟨p0, cc0, nu0, hT⟩, hZ, ⟨hKt, h8, ht, hB9⟩⟩ := id hC
  obtain ⟨nn, N, ho, TS, TH, tr, pl, q, s, R, hBd, hr, hk, hN, hs⟩ := hS.nm (by omega)
  obtain ⟨⟨⟨g0, g5⟩, ⟨g1, g6⟩, gm⟩, ⟨r1, r2, r3⟩, r5, r6, r7, r8⟩ := id hr
  have o0 := hX.1
  obtain ⟨L, U, hE⟩ := ends_of hk
  have hR : (R_mst q (noG G) n) = (R_mst (gQ G (mnG G)) (noG G) n) := R_mst_cong r7 _
  refine xP_up (show d + 4 ≤ d + 7 by omega) (e_109 o0 hBd (by omega) hCv (by omega) hE (fun f8 W8 lo8 hi8 c8 y8 z9 => ?_) (fun z9 => ?_))
  · rw [hR]
    exact k _ (hC.q (h2 := (f8, h.2)) (fun x hx => y8 x (by omega)) ⟨_, _, _, c8⟩ (Or.inl rfl)) rfl
  · rw [hR, hz] at z9; cases z9
theorem ka_110 (hC : Ca B G H Sv ch sv ea fa tn Bu h) {n : Int32} (hz : (R_q (gQ G (mnG G)) (noG G) n (fun q => nI (numV q.2.2.2 q.2.2.1 1000))).1 = 0) (k : ∀ h2, Ca B G H Sv ch sv ea fa tn Bu h2 → h2.2 = h.2 → Q (.inl (some (.int (R_q (gQ G (mnG G)) (noG G) n (fun q => nI (numV q.2.2.2 q.2.2.1 1000))).2))) h2) : xP S (d + 7) 110 0 [(0, .ref 32), (1, .int n)] [] h Q := by
  obtain ⟨pos, K, hX, hS, ⟨W, lo0, hi0, hCv⟩, ⟨p0, cc0, nu0, hT⟩, hZ, ⟨hKt, h8, ht, hB9⟩⟩ := id hC
  obtain ⟨nn, N, ho, TS, TH, tr, pl, q, s, R, hBd, hr, hk, hN, hs⟩ := hS.nm (by omega)
  obtain ⟨⟨⟨g0, g5⟩, ⟨g1, g6⟩, gm⟩, ⟨r1, r2, r3⟩, r5, r6, r7, r8⟩ := id hr
  have o0 := hX.1
  obtain ⟨L, U, hE⟩ := ends_of hk
  have hR : (R_num q (noG G) n) = R_q (gQ G (mnG G)) (noG G) n (fun q => nI (numV q.2.2.2 q.2.2.1 1000)) := show R_q q (noG G) n (fun q => nI (numV q.2.2.2 q.2.2.1 1000)) = _ from R_q_cong r7 (fun x y h => congrArg nI (numV_eqQ h 1000)) _
  refine xP_up (show d + 4 ≤ d + 7 by omega) (e_110 o0 hBd (by omega) hCv (by omega) hE (fun f8 W8 lo8 hi8 c8 y8 z9 => ?_) (fun z9 => ?_))
  · rw [hR]
    exact k _ (hC.q (h2 := (f8, h.2)) (fun x hx => y8 x (by omega)) ⟨_, _, _, c8⟩ (Or.inl rfl)) rfl
  · rw [hR, hz] at z9; cases z9
theorem ka_112 (hC : Ca B G H Sv ch sv ea fa tn Bu h) {p : Int32} (hz : ((R_rec (scG G) (gT G (scG G)) p)).1 = 0) (k : ∀ h2, Ca B G H Sv ch sv ea fa tn Bu h2 → h2.2 = h.2 → Q (.inl (some (.int ((R_rec (scG G) (gT G (scG G)) p)).2))) h2) : xP S (d + 7) 112 0 [(0, .ref 32), (1, .int p)] [] h Q := by
  obtain ⟨pos, K, hX, hS, ⟨W, lo0, hi0, hCv⟩, ⟨p0, cc0, nu0, hT⟩, hZ, ⟨hKt, h8, ht, hB9⟩⟩ := id hC
  obtain ⟨nn, N, ho, TS, TH, tr, pl, q, s, R, hBd, hr, hk, hN, hs⟩ := hS.nm (by omega)
  obtain ⟨⟨⟨g0, g5⟩, ⟨g1, g6⟩, gm⟩, ⟨r1, r2, r3⟩, r5, r6, r7, r8⟩ := id hr
  have o0 := hX.1
  have hR : (R_rec (scG G) tr p) = (R_rec (scG G) (gT G (scG G)) p) := R_rec_cong r5 _
  refine xP_up (show d + 0 ≤ d + 7 by omega) (e_112 o0 hBd (by omega) (fun z9 => ?_) (fun z9 => ?_))
  · rw [hR]
    exact k _ (hC.q (h2 := h) (fun _ _ => rfl) ⟨_, _, _, hCv⟩ (Or.inl rfl)) rfl
  · rw [hR, hz] at z9; cases z9
theorem ka_114 (hC : Ca B G H Sv ch sv ea fa tn Bu h) {p : Int32} (hz : ((R_pl (npG G) p (fun i => htP ((gP G) i)))).1 = 0) (k : ∀ h2, Ca B G H Sv ch sv ea fa tn Bu h2 → h2.2 = h.2 → Q (.inl (some (.int ((R_pl (npG G) p (fun i => htP ((gP G) i)))).2))) h2) : xP S (d + 7) 114 0 [(0, .ref 32), (1, .int p)] [] h Q := by
  obtain ⟨pos, K, hX, hS, ⟨W, lo0, hi0, hCv⟩, ⟨p0, cc0, nu0, hT⟩, hZ, ⟨hKt, h8, ht, hB9⟩⟩ := id hC
  obtain ⟨nn, N, ho, TS, TH, tr, pl, q, s, R, hBd, hr, hk, hN, hs⟩ := hS.nm (by omega)
  obtain ⟨⟨⟨g0, g5⟩, ⟨g1, g6⟩, gm⟩, ⟨r1, r2, r3⟩, r5, r6, r7, r8⟩ := id hr
  have o0 := hX.1
  have hR : (R_pl (npG G) p (fun i => htP (pl i))) = (R_pl (npG G) p (fun i => htP ((gP G) i))) := R_pl_cong (by omega) (fun i hi => (r6 i hi).ht) _
  refine xP_up (show d + 2 ≤ d + 7 by omega) (e_114 o0 hBd (by omega) (fun z9 => ?_) (fun z9 => ?_))
  · rw [hR]
    exact k _ (hC.q (h2 := h) (fun _ _ => rfl) ⟨_, _, _, hCv⟩ (Or.inl rfl)) rfl
  · rw [hR, hz] at z9; cases z9
theorem ka_115 (hC : Ca B G H Sv ch sv ea fa tn Bu h) {p : Int32} (hz : ((R_pl (npG G) p (fun i => ((gP G) i).2.1))).1 = 0) (k : ∀ h2, Ca B G H Sv ch sv ea fa tn Bu h2 → h2.2 = h.2 → Q (.inl (some (.int ((R_pl (npG G) p (fun i => ((gP G) i).2.1))).2))) h2) : xP S (d + 7) 115 0 [(0, .ref 32), (1, .int p)] [] h Q := by
  obtain ⟨pos, K, hX, hS, ⟨W, lo0, hi0, hCv⟩, ⟨p0, cc0, nu0, hT⟩, hZ, ⟨hKt, h8, ht, hB9⟩⟩ := id hC
  obtain ⟨nn, N, ho, TS, TH, tr, pl, q, s, R, hBd, hr, hk, hN, hs⟩ := hS.nm (by omega)
  obtain ⟨⟨⟨g0, g5⟩, ⟨g1, g6⟩, gm⟩, ⟨r1, r2, r3⟩, r5, r6, r7, r8⟩ := id hr
  have o0 := hX.1
  have hR : (R_pl (npG G) p (fun i => (pl i).2.1)) = (R_pl (npG G) p (fun i => ((gP G) i).2.1)) := R_pl_cong (by omega) (fun i hi => (r6 i hi).2.1) _
  refine xP_up (show d + 2 ≤ d + 7 by omega) (e_115 o0 hBd (by omega) (fun z9 => ?_) (fun z9 => ?_))
  · rw [hR]
    exact k _ (hC.q (h2 := h) (fun _ _ => rfl) ⟨_, _, _, hCv⟩ (Or.inl rfl)) rfl
  · rw [hR, hz] at z9; cases z9
theorem ka_117 (hC : Ca B G H Sv ch sv ea fa tn Bu h) {p : Int32} (hz : ((R_pl (npG G) p (fun i => errP ((gP G) i)))).1 = 0) (k : ∀ h2, Ca B G H Sv ch sv ea fa tn Bu h2 → h2.2 = h.2 → Q (.inl (some (.int ((R_pl (npG G) p (fun i => errP ((gP G) i)))).2))) h2) : xP S (d + 7) 117 0 [(0, .ref 32), (1, .int p)] [] h Q := by
  obtain ⟨pos, K, hX, hS, ⟨W, lo0, hi0, hCv⟩, ⟨p0, cc0, nu0, hT⟩, hZ, ⟨hKt, h8, ht, hB9⟩⟩ := id hC
  obtain ⟨nn, N, ho, TS, TH, tr, pl, q, s, R, hBd, hr, hk, hN, hs⟩ := hS.nm (by omega)
  obtain ⟨⟨⟨g0, g5⟩, ⟨g1, g6⟩, gm⟩, ⟨r1, r2, r3⟩, r5, r6, r7, r8⟩ := id hr
  have o0 := hX.1
  have hR : (R_pl (npG G) p (fun i => errP (pl i))) = (R_pl (npG G) p (fun i => errP ((gP G) i))) := R_pl_cong (by omega) (fun i hi => (r6 i hi).er) _
  refine xP_up (show d + 2 ≤ d + 7 by omega) (e_117 o0 hBd (by omega) (fun z9 => ?_) (fun z9 => ?_))
  · rw [hR]
    exact k _ (hC.q (h2 := h) (fun _ _ => rfl) ⟨_, _, _, hCv⟩ (Or.inl rfl)) rfl
  · rw [hR, hz] at z9; cases z9
theorem ka_118 (hC : Ca B G H Sv ch sv ea fa tn Bu h) (hz : ((R_opt (bst (gP G) (npG G)))).1 = 0) (k : ∀ h2, Ca B G H Sv ch sv ea fa tn Bu h2 → h2.2 = h.2 → Q (.inl (some (.int ((R_opt (bst (gP G) (npG G)))).2))) h2) : xP S (d + 7) 118 0 [(0, .ref 32)] [] h Q := by
  obtain ⟨pos, K, hX, hS, ⟨W, lo0, hi0, hCv⟩, ⟨p0, cc0, nu0, hT⟩, hZ, ⟨hKt, h8, ht, hB9⟩⟩ := id hC
  obtain ⟨nn, N, ho, TS, TH, tr, pl, q, s, R, hBd, hr, hk, hN, hs⟩ := hS.nm (by omega)
  obtain ⟨⟨⟨g0, g5⟩, ⟨g1, g6⟩, gm⟩, ⟨r1, r2, r3⟩, r5, r6, r7, r8⟩ := id hr
  have o0 := hX.1
  have hR : (R_opt (bst pl (npG G))) = (R_opt (bst (gP G) (npG G))) := by rw [bst_cong r6]
  refine xP_up (show d + 3 ≤ d + 7 by omega) (e_118 o0 hBd (by omega) trivial (fun z9 => ?_) (fun z9 => ?_))
  · rw [hR]
    exact k _ (hC.q (h2 := h) (fun _ _ => rfl) ⟨_, _, _, hCv⟩ (Or.inl rfl)) rfl
  · rw [hR, hz] at z9; cases z9
theorem ka_119 (hC : Ca B G H Sv ch sv ea fa tn Bu h) {p : Int32} (hz : ((R_by (npG G) (gP G) p)).1 = 0) (k : ∀ h2, Ca B G H Sv ch sv ea fa tn Bu h2 → h2.2 = h.2 → Q (.inl (some (.int ((R_by (npG G) (gP G) p)).2))) h2) : xP S (d + 7) 119 0 [(0, .ref 32), (1, .int p)] [] h Q := by
  obtain ⟨pos, K, hX, hS, ⟨W, lo0, hi0, hCv⟩, ⟨p0, cc0, nu0, hT⟩, hZ, ⟨hKt, h8, ht, hB9⟩⟩ := id hC
  obtain ⟨nn, N, ho, TS, TH, tr, pl, q, s, R, hBd, hr, hk, hN, hs⟩ := hS.nm (by omega)
  obtain ⟨⟨⟨g0, g5⟩, ⟨g1, g6⟩, gm⟩, ⟨r1, r2, r3⟩, r5, r6, r7, r8⟩ := id hr
  have o0 := hX.1
  have hR : (R_by (npG G) pl p) = (R_by (npG G) (gP G) p) := R_by_cong r6 _
  refine xP_up (show d + 4 ≤ d + 7 by omega) (e_119 o0 hBd (by omega) (fun z9 => ?_) (fun z9 => ?_))
  · rw [hR]
    exact k _ (hC.q (h2 := h) (fun _ _ => rfl) ⟨_, _, _, hCv⟩ (Or.inl rfl)) rfl
  · rw [hR, hz] at z9; cases z9
theorem ka_120 (hC : Ca B G H Sv ch sv ea fa tn Bu h) {c : Int32} (hz : (R_bin (fun j => xsum (fun i => G (30 + 9 * i + j - 1)) (npG G)) c).1 = 0) (k : ∀ h2, Ca B G H Sv ch sv ea fa tn Bu h2 → h2.2 = h.2 → Q (.inl (some (.int (R_bin (fun j => xsum (fun i => G (30 + 9 * i + j - 1)) (npG G)) c).2))) h2) : xP S (d + 7) 120 0 [(0, .ref 32), (1, .int c)] [] h Q := by
  obtain ⟨pos, K, hX, hS, ⟨W, lo0, hi0, hCv⟩, ⟨p0, cc0, nu0, hT⟩, hZ, ⟨hKt, h8, ht, hB9⟩⟩ := id hC
  obtain ⟨nn, N, ho, TS, TH, tr, pl, q, s, R, hBd, hr, hk, hN, hs⟩ := hS.nm (by omega)
  obtain ⟨⟨⟨g0, g5⟩, ⟨g1, g6⟩, gm⟩, ⟨r1, r2, r3⟩, r5, r6, r7, r8⟩ := id hr
  have o0 := hX.1
  have bs := binS_of (G := G) hk r6
  have hR : (R_bin TS c) = R_bin (fun j => xsum (fun i => G (30 + 9 * i + j - 1)) (npG G)) c := R_bin_cong bs.1 _
  refine xP_up (show d + 2 ≤ d + 7 by omega) (e_120 o0 hBd (by omega) (fun z9 => ?_) (fun z9 => ?_))
  · rw [hR]
    exact k _ (hC.q (h2 := h) (fun _ _ => rfl) ⟨_, _, _, hCv⟩ (Or.inl rfl)) rfl
  · rw [hR, hz] at z9; cases z9
theorem ka_121 (hC : Ca B G H Sv ch sv ea fa tn Bu h) {c : Int32} (hz : (R_bin (fun j => xsum (fun i => G (30 + 9 * i + j - 1)) (npG G)) c).1 = 0) (k : ∀ h2, Ca B G H Sv ch sv ea fa tn Bu h2 → h2.2 = h.2 → Q (.inl (some (.int (R_bin (fun j => xsum (fun i => G (30 + 9 * i + j - 1)) (npG G)) c).2))) h2) : xP S (d + 7) 121 0 [(0, .ref 32), (1, .int c)] [] h Q := by
  obtain ⟨pos, K, hX, hS, ⟨W, lo0, hi0, hCv⟩, ⟨p0, cc0, nu0, hT⟩, hZ, ⟨hKt, h8, ht, hB9⟩⟩ := id hC
  obtain ⟨nn, N, ho, TS, TH, tr, pl, q, s, R, hBd, hr, hk, hN, hs⟩ := hS.nm (by omega)
  obtain ⟨⟨⟨g0, g5⟩, ⟨g1, g6⟩, gm⟩, ⟨r1, r2, r3⟩, r5, r6, r7, r8⟩ := id hr
  have o0 := hX.1
  have bs := binS_of (G := G) hk r6
  have hR : (R_bin (fun j => xsum (fun i => (pl i).2.2.2.1 j) (npG G)) c) = R_bin (fun j => xsum (fun i => G (30 + 9 * i + j - 1)) (npG G)) c := R_bin_cong bs.2.2 _
  refine xP_up (show d + 3 ≤ d + 7 by omega) (e_121 o0 hBd (by omega) (fun z9 => ?_) (fun z9 => ?_))
  · rw [hR]
    exact k _ (hC.q (h2 := h) (fun _ _ => rfl) ⟨_, _, _, hCv⟩ (Or.inl rfl)) rfl
  · rw [hR, hz] at z9; cases z9
theorem ka_122 (hC : Ca B G H Sv ch sv ea fa tn Bu h) {c : Int32} (hz : (R_bin (fun j => xsum (fun i => G (75 + 9 * i + j - 1)) (npG G)) c).1 = 0) (k : ∀ h2, Ca B G H Sv ch sv ea fa tn Bu h2 → h2.2 = h.2 → Q (.inl (some (.int (R_bin (fun j => xsum (fun i => G (75 + 9 * i + j - 1)) (npG G)) c).2))) h2) : xP S (d + 7) 122 0 [(0, .ref 32), (1, .int c)] [] h Q := by
  obtain ⟨pos, K, hX, hS, ⟨W, lo0, hi0, hCv⟩, ⟨p0, cc0, nu0, hT⟩, hZ, ⟨hKt, h8, ht, hB9⟩⟩ := id hC
  obtain ⟨nn, N, ho, TS, TH, tr, pl, q, s, R, hBd, hr, hk, hN, hs⟩ := hS.nm (by omega)
  obtain ⟨⟨⟨g0, g5⟩, ⟨g1, g6⟩, gm⟩, ⟨r1, r2, r3⟩, r5, r6, r7, r8⟩ := id hr
  have o0 := hX.1
  have bs := binS_of (G := G) hk r6
  have hR : (R_bin TH c) = R_bin (fun j => xsum (fun i => G (75 + 9 * i + j - 1)) (npG G)) c := R_bin_cong bs.2.1 _
  refine xP_up (show d + 2 ≤ d + 7 by omega) (e_122 o0 hBd (by omega) (fun z9 => ?_) (fun z9 => ?_))
  · rw [hR]
    exact k _ (hC.q (h2 := h) (fun _ _ => rfl) ⟨_, _, _, hCv⟩ (Or.inl rfl)) rfl
  · rw [hR, hz] at z9; cases z9
theorem ka_90 (hC : Ca B G H Sv ch sv ea fa tn Bu h) (k : Q (.inl (some (.int (G 0)))) h) : xP S (d + 7) 90 0 [(0, .ref 32)] [] h Q := by
  obtain ⟨pos, K, hX, hS, ⟨W, lo0, hi0, hCv⟩, ⟨p0, cc0, nu0, hT⟩, hZ, ⟨hKt, h8, ht, hB9⟩⟩ := id hC
  obtain ⟨nn, N, ho, TS, TH, tr, pl, q, s, R, hBd, hr, hk, hN, hs⟩ := hS.nm (by omega)
  obtain ⟨⟨⟨g0, g5⟩, ⟨g1, g6⟩, gm⟩, ⟨r1, r2, r3⟩, r5, r6, r7, r8⟩ := id hr
  have o0 := hX.1
  refine xP_up (show d + 0 ≤ d + 7 by omega) (e_90 o0 hBd (by omega) ?_)
  rw [← g0]
  exact k
theorem ka_93 (hC : Ca B G H Sv ch sv ea fa tn Bu h) (k : Q (.inl (some (.int (G 3)))) h) : xP S (d + 7) 93 0 [(0, .ref 32)] [] h Q := by
  obtain ⟨pos, K, hX, hS, ⟨W, lo0, hi0, hCv⟩, ⟨p0, cc0, nu0, hT⟩, hZ, ⟨hKt, h8, ht, hB9⟩⟩ := id hC
  obtain ⟨nn, N, ho, TS, TH, tr, pl, q, s, R, hBd, hr, hk, hN, hs⟩ := hS.nm (by omega)
  obtain ⟨⟨⟨g0, g5⟩, ⟨g1, g6⟩, gm⟩, ⟨r1, r2, r3⟩, r5, r6, r7, r8⟩ := id hr
  have o0 := hX.1
  refine xP_up (show d + 0 ≤ d + 7 by omega) (e_93 o0 hBd (by omega) ?_)
  rw [← r2]
  exact k
theorem ka_95 (hC : Ca B G H Sv ch sv ea fa tn Bu h) (k : Q (.inl (some (.int (G 1)))) h) : xP S (d + 7) 95 0 [(0, .ref 32)] [] h Q := by
  obtain ⟨pos, K, hX, hS, ⟨W, lo0, hi0, hCv⟩, ⟨p0, cc0, nu0, hT⟩, hZ, ⟨hKt, h8, ht, hB9⟩⟩ := id hC
  obtain ⟨nn, N, ho, TS, TH, tr, pl, q, s, R, hBd, hr, hk, hN, hs⟩ := hS.nm (by omega)
  obtain ⟨⟨⟨g0, g5⟩, ⟨g1, g6⟩, gm⟩, ⟨r1, r2, r3⟩, r5, r6, r7, r8⟩ := id hr
  have o0 := hX.1
  refine xP_up (show d + 0 ≤ d + 7 by omega) (e_95 o0 hBd (by omega) ?_)
  rw [← g1]
  exact k
theorem ka_111 (hC : Ca B G H Sv ch sv ea fa tn Bu h) (k : Q (.inl (some (.int (G 4)))) h) : xP S (d + 7) 111 0 [(0, .ref 32)] [] h Q := by
  obtain ⟨pos, K, hX, hS, ⟨W, lo0, hi0, hCv⟩, ⟨p0, cc0, nu0, hT⟩, hZ, ⟨hKt, h8, ht, hB9⟩⟩ := id hC
  obtain ⟨nn, N, ho, TS, TH, tr, pl, q, s, R, hBd, hr, hk, hN, hs⟩ := hS.nm (by omega)
  obtain ⟨⟨⟨g0, g5⟩, ⟨g1, g6⟩, gm⟩, ⟨r1, r2, r3⟩, r5, r6, r7, r8⟩ := id hr
  have o0 := hX.1
  refine xP_up (show d + 0 ≤ d + 7 by omega) (e_111 o0 hBd (by omega) ?_)
  rw [← r3]
  exact k
theorem ka_131 (hC : Ca B G H Sv ch sv ea fa tn Bu h) (k : Q (.inl (some (.int (nI ch)))) h) : xP S (d + 7) 131 0 [(0, .ref 32)] [] h Q := by
  obtain ⟨pos, K, hX, hS, ⟨W, lo0, hi0, hCv⟩, ⟨p0, cc0, nu0, hT⟩, hZ, ⟨hKt, h8, ht, hB9⟩⟩ := id hC
  obtain ⟨nn, N, ho, TS, TH, tr, pl, q, s, R, hBd, hr, hk, hN, hs⟩ := hS.nm (by omega)
  obtain ⟨⟨⟨g0, g5⟩, ⟨g1, g6⟩, gm⟩, ⟨r1, r2, r3⟩, r5, r6, r7, r8⟩ := id hr
  have o0 := hX.1
  exact xP_up (show d ≤ d + 7 by omega) (e_131 hX hS k)
theorem ka_127 (hC : Ca B G H Sv ch sv ea fa tn Bu h) (hz : ea ≠ -1) (k : Q (.inl (some (.int ea))) h) : xP S (d + 7) 127 0 [(0, .ref 32)] [] h Q := by
  obtain ⟨pos, K, hX, hS, ⟨W, lo0, hi0, hCv⟩, ⟨p0, cc0, nu0, hT⟩, hZ, ⟨hKt, h8, ht, hB9⟩⟩ := id hC
  obtain ⟨nn, N, ho, TS, TH, tr, pl, q, s, R, hBd, hr, hk, hN, hs⟩ := hS.nm (by omega)
  obtain ⟨⟨⟨g0, g5⟩, ⟨g1, g6⟩, gm⟩, ⟨r1, r2, r3⟩, r5, r6, r7, r8⟩ := id hr
  have o0 := hX.1
  refine xP_up (show d ≤ d + 7 by omega) (e_127 o0 hBd (by omega) trivial (fun z9 => ?_) (fun z9 => ?_))
  · rw [if_neg hz]
    exact k
  · rw [if_neg hz] at z9
    cases z9
theorem ka_128 (hC : Ca B G H Sv ch sv ea fa tn Bu h) (hz : fa ≠ -1) (k : Q (.inl (some (.int fa))) h) : xP S (d + 7) 128 0 [(0, .ref 32)] [] h Q := by
  obtain ⟨pos, K, hX, hS, ⟨W, lo0, hi0, hCv⟩, ⟨p0, cc0, nu0, hT⟩, hZ, ⟨hKt, h8, ht, hB9⟩⟩ := id hC
  obtain ⟨nn, N, ho, TS, TH, tr, pl, q, s, R, hBd, hr, hk, hN, hs⟩ := hS.nm (by omega)
  obtain ⟨⟨⟨g0, g5⟩, ⟨g1, g6⟩, gm⟩, ⟨r1, r2, r3⟩, r5, r6, r7, r8⟩ := id hr
  have o0 := hX.1
  refine xP_up (show d ≤ d + 7 by omega) (e_128 o0 hBd (by omega) trivial (fun z9 => ?_) (fun z9 => ?_))
  · rw [if_neg hz]
    exact k
  · rw [if_neg hz] at z9
    cases z9
theorem ka_84 (hC : Ca B G H Sv ch sv ea fa tn Bu h) (hB : B ≤ 900) (kF : joinF (npG G) ≠ 0 → Q (.inr (fE (joinF (npG G)))) (xbump h)) (kS : joinF (npG G) = 0 → ∀ h2, Ca (B + 1) (xw (xw G (10 + npG G) 100) 0 (nI (npG G + 1))) (psh ch H G) Sv (min (ch + 1) 8) sv ea fa tn Bu h2 → h2.2 = h.2 → Q (.inl (some (.int (nI (npG G))))) h2) : xP S (d + 7) 84 0 [(0, .ref 32)] [] h Q := by
  obtain ⟨pos, K, hX, hS, ⟨W, lo0, hi0, hCv⟩, ⟨p0, cc0, nu0, hT⟩, hZ, ⟨hKt, h8, ht, hB9⟩⟩ := id hC
  obtain ⟨nn, N, ho, TS, TH, tr, pl, q, s, R, hBd, hr, hk, hN, hs⟩ := hS.nm (by omega)
  obtain ⟨⟨⟨g0, g5⟩, ⟨g1, g6⟩, gm⟩, ⟨r1, r2, r3⟩, r5, r6, r7, r8⟩ := id hr
  have o0 := hX.1
  refine xP_up (show d + 6 ≤ d + 7 by omega) (e_84 hX hBd hr hk hN hs (by omega) (fun z9 => ?_) (fun z9 f2 pos2 c2 s2 y2 => ?_))
  · exact kF z9
  · exact kS z9 (f2, h.2) (hC.p (B2 := B + 1) c2 s2 ⟨_, _, _, hT.fr (fun x h1 h2 => y2 x (by omega))⟩ (fun x hx => y2 x (by omega)) (Or.inl rfl) (by omega) (by omega) ht) rfl
theorem ka_85 (hC : Ca B G H Sv ch sv ea fa tn Bu h) (hB : B ≤ 900) {w : Int32} (kF : askF (noG G) w ≠ 0 → Q (.inr (fE (askF (noG G) w))) (xbump h)) (kS : askF (noG G) w = 0 → ∀ h2, Ca (B + 1) (gAsk G (noG G) w) (psh ch H G) Sv (min (ch + 1) 8) sv ea fa tn Bu h2 → h2.2 = h.2 → Q (.inl (some (.int (G 2)))) h2) : xP S (d + 7) 85 0 [(0, .ref 32), (1, .int w)] [] h Q := by
  obtain ⟨pos, K, hX, hS, ⟨W, lo0, hi0, hCv⟩, ⟨p0, cc0, nu0, hT⟩, hZ, ⟨hKt, h8, ht, hB9⟩⟩ := id hC
  obtain ⟨nn, N, ho, TS, TH, tr, pl, q, s, R, hBd, hr, hk, hN, hs⟩ := hS.nm (by omega)
  obtain ⟨⟨⟨g0, g5⟩, ⟨g1, g6⟩, gm⟩, ⟨r1, r2, r3⟩, r5, r6, r7, r8⟩ := id hr
  have o0 := hX.1
  refine xP_up (show d + 6 ≤ d + 7 by omega) (e_85 hX hBd hr hk hN hs (by omega) (fun z9 => ?_) (fun z9 f2 pos2 c2 s2 y2 => ?_))
  · exact kF z9
  · rw [← r1]
    exact kS z9 (f2, h.2) (hC.p (B2 := B + 1) c2 s2 ⟨_, _, _, hT.fr (fun x h1 h2 => y2 x (by omega))⟩ (fun x hx => y2 x (by omega)) (Or.inl rfl) (by omega) (by omega) ht) rfl
theorem ka_88 (hC : Ca B G H Sv ch sv ea fa tn Bu h) (hB : B ≤ 900) (kF : postF (noG G) ≠ 0 → Q (.inr (fE (postF (noG G)))) (xbump h)) (kS : postF (noG G) = 0 → ∀ h2, Ca (B + 1) (gPst G (noG G)) (psh ch H G) Sv (min (ch + 1) 8) sv ea fa tn Bu h2 → h2.2 = h.2 → Q (.inl (some (.int ((rot (gQ G (mnG G)) 0 (noG G - 1) 0).1)))) h2) : xP S (d + 7) 88 0 [(0, .ref 32)] [] h Q := by
  obtain ⟨pos, K, hX, hS, ⟨W, lo0, hi0, hCv⟩, ⟨p0, cc0, nu0, hT⟩, hZ, ⟨hKt, h8, ht, hB9⟩⟩ := id hC
  obtain ⟨nn, N, ho, TS, TH, tr, pl, q, s, R, hBd, hr, hk, hN, hs⟩ := hS.nm (by omega)
  obtain ⟨⟨⟨g0, g5⟩, ⟨g1, g6⟩, gm⟩, ⟨r1, r2, r3⟩, r5, r6, r7, r8⟩ := id hr
  have o0 := hX.1
  refine xP_up (show d + 6 ≤ d + 7 by omega) (e_88 hX hBd hr hk hN hs (by omega) (fun z9 => ?_) (fun z9 f2 pos2 c2 s2 y2 => ?_))
  · exact kF z9
  · have hn : 0 < noG G := by
      unfold postF at z9
      split at z9 <;> omega
    have e9 : (rot q 0 (noG G - 1) 0).1 = (rot (gQ G (mnG G)) 0 (noG G - 1) 0).1 := by
      rw [rot_I, rot_I]
      exact (r7 _ (rotI_lt (by omega) (by omega) hn)).1
    rw [e9]
    exact kS z9 (f2, h.2) (hC.p (B2 := B + 1) c2 s2 ⟨_, _, _, hT.fr (fun x h1 h2 => y2 x (by omega))⟩ (fun x hx => y2 x (by omega)) (Or.inl rfl) (by omega) (by omega) ht) rfl
theorem ka_87 (hC : Ca B G H Sv ch sv ea fa tn Bu h) (hB : B ≤ 900) {t : Int32} (kF : settF (noG G) t ≠ 0 → Q (.inr (fE (settF (noG G) t))) (xbump h)) (kS : settF (noG G) t = 0 → ∀ h2, Ca (B + 1) (gSet G (noG G) (mnG G 0) (scG G) t) (psh ch H G) Sv (min (ch + 1) 8) sv ea fa tn Bu h2 → h2.2 = h.2 → Q (.inl (some (.int (nI (hitN (gQ G (mnG G) 0).2.2.2 t (gQ G (mnG G) 0).2.2.1))))) h2) : xP S (d + 7) 87 0 [(0, .ref 32), (1, .int t)] [] h Q := by
  obtain ⟨pos, K, hX, hS, ⟨W, lo0, hi0, hCv⟩, ⟨p0, cc0, nu0, hT⟩, hZ, ⟨hKt, h8, ht, hB9⟩⟩ := id hC
  obtain ⟨nn, N, ho, TS, TH, tr, pl, q, s, R, hBd, hr, hk, hN, hs⟩ := hS.nm (by omega)
  obtain ⟨⟨⟨g0, g5⟩, ⟨g1, g6⟩, gm⟩, ⟨r1, r2, r3⟩, r5, r6, r7, r8⟩ := id hr
  have o0 := hX.1
  refine xP_up (show d + 6 ≤ d + 7 by omega) (e_87 hX hBd hr hk hN hs (by omega) (fun z9 => ?_) (fun z9 f2 pos2 c2 s2 y2 => ?_))
  · exact kF z9
  · have hn : 0 < noG G := by
      unfold settF at z9
      split at z9
      · unfold postF at z9
        split at z9 <;> omega
      · omega
    have e9 : hitN (q 0).2.2.2 t (q 0).2.2.1 = hitN (gQ G (mnG G) 0).2.2.2 t (gQ G (mnG G) 0).2.2.1 := by
      obtain ⟨-, -, w1, w2⟩ := r7 0 hn
      rw [w1]
      exact hitN_cong w2
    rw [e9]
    exact kS z9 (f2, h.2) (hC.p (B2 := B + 1) c2 s2 ⟨_, _, _, hT.fr (fun x h1 h2 => y2 x (by omega))⟩ (fun x hx => y2 x (by omega)) (Or.inl rfl) (by omega) (by omega) ht) rfl
theorem ka_89 (hC : Ca B G H Sv ch sv ea fa tn Bu h) (hB : B ≤ 900) {p : Int32} (kF : leavF (npG G) (gP G) p ≠ 0 → Q (.inr (fE (leavF (npG G) (gP G) p))) (xbump h)) (kS : leavF (npG G) (gP G) p = 0 → ∀ h2, Ca (B + 1) (xw (wdN G p.toNatClampNeg (mnG G) (noG G)) (15 + p.toNatClampNeg) 1) (psh ch H G) Sv (min (ch + 1) 8) sv ea fa tn Bu h2 → h2.2 = h.2 → Q (.inl (some (.int (nI (cntB (fun j => hasQ p (gQ G (mnG G) j)) (noG G)))))) h2) : xP S (d + 7) 89 0 [(0, .ref 32), (1, .int p)] [] h Q := by
  obtain ⟨pos, K, hX, hS, ⟨W, lo0, hi0, hCv⟩, ⟨p0, cc0, nu0, hT⟩, hZ, ⟨hKt, h8, ht, hB9⟩⟩ := id hC
  obtain ⟨nn, N, ho, TS, TH, tr, pl, q, s, R, hBd, hr, hk, hN, hs⟩ := hS.nm (by omega)
  obtain ⟨⟨⟨g0, g5⟩, ⟨g1, g6⟩, gm⟩, ⟨r1, r2, r3⟩, r5, r6, r7, r8⟩ := id hr
  have o0 := hX.1
  have hF : leavF (npG G) pl p = leavF (npG G) (gP G) p := leavF_cong (by omega) r6 p
  refine xP_up (show d + 6 ≤ d + 7 by omega) (e_89 hX hBd hr hk hN hs (by omega) (fun z9 => ?_) (fun z9 i hi hpi f2 pos2 c2 s2 y2 => ?_))
  · rw [hF] at z9 ⊢
    exact kF z9
  · rw [hF] at z9
    have e9 : cntB (fun j => hasQ (nI i) (q j)) (noG G) = cntB (fun j => hasQ p (gQ G (mnG G) j)) (noG G) := by
      rw [← hpi]
      exact cntB_cong (fun j hj => hasQ_eqQ (r7 j hj) p)
    have e8 : p.toNatClampNeg = i := by rw [hpi]; exact nI_clamp (by omega)
    rw [e9]
    refine kS z9 (f2, h.2) ?_ rfl
    rw [e8]
    exact hC.p (B2 := B + 1) c2 s2 ⟨_, _, _, hT.fr (fun x h1 h2 => y2 x (by omega))⟩ (fun x hx => y2 x (by omega)) (Or.inl rfl) (by omega) (by omega) ht
theorem ka_86 (hC : Ca B G H Sv ch sv ea fa tn Bu h) (hB : B ≤ 900) {p n lo hi2 c sk : Int32} (kF : betF (npG G) (noG G) (gP G) (gQ G (mnG G)) p n lo hi2 c sk ≠ 0 → Q (.inr (fE (betF (npG G) (noG G) (gP G) (gQ G (mnG G)) p n lo hi2 c sk))) (xbump h)) (kS : betF (npG G) (noG G) (gP G) (gQ G (mnG G)) p n lo hi2 c sk = 0 → ∀ h2, Ca (B + 1) (gBet G p.toNatClampNeg (pla (gQ G (mnG G)) (noG G) n) (mnG G (pla (gQ G (mnG G)) (noG G) n)) lo hi2 c sk) (psh ch H G) Sv (min (ch + 1) 8) sv ea fa tn Bu h2 → h2.2 = h.2 → Q (.inl (some (.int ((gP G p.toNatClampNeg).1 - sk)))) h2) : xP S (d + 7) 86 0 [(0, .ref 32), (1, .int p), (2, .int n), (3, .int lo), (4, .int hi2), (5, .int c), (6, .int sk)] [] h Q := by
  obtain ⟨pos, K, hX, hS, ⟨W, lo0, hi0, hCv⟩, ⟨p0, cc0, nu0, hT⟩, hZ, ⟨hKt, h8, ht, hB9⟩⟩ := id hC
  obtain ⟨nn, N, ho, TS, TH, tr, pl, q, s, R, hBd, hr, hk, hN, hs⟩ := hS.nm (by omega)
  obtain ⟨⟨⟨g0, g5⟩, ⟨g1, g6⟩, gm⟩, ⟨r1, r2, r3⟩, r5, r6, r7, r8⟩ := id hr
  have o0 := hX.1
  have hF : betF (npG G) (noG G) pl q p n lo hi2 c sk = betF (npG G) (noG G) (gP G) (gQ G (mnG G)) p n lo hi2 c sk := betF_cong (by omega) r6 r7 _ _ _ _ _ _
  refine xP_up (show d + 6 ≤ d + 7 by omega) (e_86 hX hBd hr hk hN hs (by omega) (fun z9 => ?_) (fun z9 i hi hpi f2 pos2 c2 s2 y2 => ?_))
  · rw [hF] at z9 ⊢
    exact kF z9
  · rw [hF] at z9
    have e8 : p.toNatClampNeg = i := by rw [hpi]; exact nI_clamp (by omega)
    rw [(r6 i hi).1]
    have k2 := kS z9 (f2, h.2)
    rw [e8] at k2
    exact k2 (hC.p (B2 := B + 1) c2 s2 ⟨_, _, _, hT.fr (fun x h1 h2 => y2 x (by omega))⟩ (fun x hx => y2 x (by omega)) (Or.inl rfl) (by omega) (by omega) ht) rfl
theorem ka_132 (hC : Ca B G H Sv ch sv ea fa tn Bu h) (h0 : 0 < ch) (k : ∀ h2, Ca B (fun j => H ((ch - 1) * 288 + j)) H Sv (ch - 1) sv ea fa tn Bu h2 → h2.2 = h.2 → Q (.inl (some (.int (nI (ch - 1))))) h2) : xP S (d + 7) 132 0 [(0, .ref 32)] [] h Q := by
  obtain ⟨pos, K, hX, hS, ⟨W, lo0, hi0, hCv⟩, ⟨p0, cc0, nu0, hT⟩, hZ, ⟨hKt, h8, ht, hB9⟩⟩ := id hC
  obtain ⟨nn, N, ho, TS, TH, tr, pl, q, s, R, hBd, hr, hk, hN, hs⟩ := hS.nm (by omega)
  obtain ⟨⟨⟨g0, g5⟩, ⟨g1, g6⟩, gm⟩, ⟨r1, r2, r3⟩, r5, r6, r7, r8⟩ := id hr
  have o0 := hX.1
  refine xP_up (show d + 6 ≤ d + 7 by omega) (e_132 hX hS (fun z9 => absurd z9 (by omega)) (fun z9 f2 pos2 c2 s2 y2 => ?_))
  exact k (f2, h.2) (hC.p (B2 := B) c2 s2 ⟨_, _, _, hT.fr (fun x h1 h2 => y2 x (by omega))⟩ (fun x hx => y2 x (by omega)) (Or.inl rfl) (by omega) (by omega) ht) rfl
theorem ka_133 (hC : Ca B G H Sv ch sv ea fa tn Bu h) (k : ∀ h2, Ca B G H G ch true ea fa tn Bu h2 → h2.2 = h.2 → Q (.inl (some (.int (G 1)))) h2) : xP S (d + 7) 133 0 [(0, .ref 32)] [] h Q := by
  obtain ⟨pos, K, hX, hS, ⟨W, lo0, hi0, hCv⟩, ⟨p0, cc0, nu0, hT⟩, hZ, ⟨hKt, h8, ht, hB9⟩⟩ := id hC
  obtain ⟨nn, N, ho, TS, TH, tr, pl, q, s, R, hBd, hr, hk, hN, hs⟩ := hS.nm (by omega)
  obtain ⟨⟨⟨g0, g5⟩, ⟨g1, g6⟩, gm⟩, ⟨r1, r2, r3⟩, r5, r6, r7, r8⟩ := id hr
  have o0 := hX.1
  refine xP_up (show d + 5 ≤ d + 7 by omega) (e_133 (N := N) hX hS hBd (fun f2 c2 s2 y2 => ?_))
  rw [← g1]
  exact k (f2, h.2) (hC.p (B2 := B) c2 s2 ⟨_, _, _, hT.fr (fun x h1 h2 => y2 x (by omega))⟩ (fun x hx => y2 x (by omega)) (Or.inl rfl) (by omega) (by omega) ht) rfl
theorem ka_134 (hC : Ca B G H Sv ch sv ea fa tn Bu h) (h0 : sv = true) (k : ∀ h2, Ca B Sv H Sv 0 sv ea fa tn Bu h2 → h2.2 = h.2 → Q (.inl (some (.int (Sv 1)))) h2) : xP S (d + 7) 134 0 [(0, .ref 32)] [] h Q := by
  obtain ⟨pos, K, hX, hS, ⟨W, lo0, hi0, hCv⟩, ⟨p0, cc0, nu0, hT⟩, hZ, ⟨hKt, h8, ht, hB9⟩⟩ := id hC
  obtain ⟨nn, N, ho, TS, TH, tr, pl, q, s, R, hBd, hr, hk, hN, hs⟩ := hS.nm (by omega)
  obtain ⟨⟨⟨g0, g5⟩, ⟨g1, g6⟩, gm⟩, ⟨r1, r2, r3⟩, r5, r6, r7, r8⟩ := id hr
  have o0 := hX.1
  refine xP_up (show d + 5 ≤ d + 7 by omega) (e_134 hX hS (fun z9 => by rw [h0] at z9; cases z9) (fun z9 f2 c2 s2 y2 => ?_))
  exact k (f2, h.2) (hC.p (B2 := B) c2 s2 ⟨_, _, _, hT.fr (fun x h1 h2 => y2 x (by omega))⟩ (fun x hx => y2 x (by omega)) (Or.inl rfl) (by omega) (by omega) ht) rfl
theorem ka_125 (hC : Ca B G H Sv ch sv ea fa tn Bu h) (hB : B ≤ 900) {x : Int32} (hx : vp_nar .char x = x) (ht60 : tn < 60) (k : ∀ h2, Ca (B + 1) G H Sv ch sv ea fa (tn + 1) (xw Bu tn x) h2 → h2.2 = h.2 → Q (.inl (some (.int (nI (tn + 1))))) h2) : xP S (d + 7) 125 0 [(0, .ref 32), (1, .int x)] [] h Q := by
  obtain ⟨pos, K, hX, hS, ⟨W, lo0, hi0, hCv⟩, ⟨p0, cc0, nu0, hT⟩, hZ, ⟨hKt, h8, ht, hB9⟩⟩ := id hC
  obtain ⟨nn, N, ho, TS, TH, tr, pl, q, s, R, hBd, hr, hk, hN, hs⟩ := hS.nm (by omega)
  obtain ⟨⟨⟨g0, g5⟩, ⟨g1, g6⟩, gm⟩, ⟨r1, r2, r3⟩, r5, r6, r7, r8⟩ := id hr
  have o0 := hX.1
  refine xP_up (show d + 1 ≤ d + 7 by omega) (e_125 o0 hT (by omega) hx (fun z9 => absurd z9 (by omega)) (fun z9 f2 t2 y2 => ?_))
  exact k (f2, h.2) (hC.p (B2 := B + 1) (hX.fr (fun x hx => y2 x (by omega))) (hS.fr (fun x h1 h2 => y2 x (by omega))) ⟨_, _, _, t2⟩ (fun x hx => y2 x (by omega)) (Or.inl rfl) (by omega) h8 (by omega)) rfl
theorem ka_126 (hC : Ca B G H Sv ch sv ea fa tn Bu h) (hB : B ≤ 900) {c0 : Nat} {nu : Nat → Int32} (kA : ∀ c nu, (ctC Bu tn 60 1 0 c nu).1 = none → ∀ h2, Ca B G H Sv ch sv (nI (ctC Bu tn 60 1 0 c nu).2.1) fa 0 Bu h2 → h2.2 = (xbump h).2 → Q (.inr 1) h2) (kB : ∀ c nu v i, (ctC Bu tn 60 1 0 c nu).1 = some v → (exC Bu tn v 0 0 (ctC Bu tn 60 1 0 c nu).2.2.1 (ctC Bu tn 60 1 0 c nu).2.2.2 G).1 = some i → ∀ h2, Ca (B + v) G H Sv ch sv ea (nI i) 0 Bu h2 → h2.2 = (xbump h).2 → Q (.inr 4) h2) (kC : ∀ c nu v, (ctC Bu tn 60 1 0 c nu).1 = some v → (exC Bu tn v 0 0 (ctC Bu tn 60 1 0 c nu).2.2.1 (ctC Bu tn 60 1 0 c nu).2.2.2 G).1 = none → ∀ h2, Ca (B + v) (exC Bu tn v 0 0 (ctC Bu tn 60 1 0 c nu).2.2.1 (ctC Bu tn 60 1 0 c nu).2.2.2 G).2.1 (psh ch H G) Sv (min (ch + 1) 8) sv ea fa 0 Bu h2 → h2.2 = h.2 → Q (.inl (some (.int (nI v)))) h2) : xP S (d + 7) 126 0 [(0, .ref 32)] [] h Q := by
  obtain ⟨pos, K, hX, hS, ⟨W, lo0, hi0, hCv⟩, ⟨p0, cc0, nu0, hT⟩, hZ, ⟨hKt, h8, ht, hB9⟩⟩ := id hC
  obtain ⟨nn, N, ho, TS, TH, tr, pl, q, s, R, hBd, hr, hk, hN, hs⟩ := hS.nm (by omega)
  obtain ⟨⟨⟨g0, g5⟩, ⟨g1, g6⟩, gm⟩, ⟨r1, r2, r3⟩, r5, r6, r7, r8⟩ := id hr
  have o0 := hX.1
  refine e_126 hX hS hT (by omega) (fun z9 f2 c2 s2 t2 y2 => ?_) (fun v i z9 w9 f2 c2 s2 t2 y2 => ?_) (fun v z9 w9 f2 pos2 c2 s2 t2 y2 => ?_)
  · exact kA _ _ z9 (xbump (f2, h.2)) (hC.p (h2 := xbump (f2, h.2)) (B2 := B) c2 s2 t2 (fun x hx => y2 x (by omega)) (Or.inr rfl) (by omega) (by omega) (by omega)) rfl
  · have hv := ctC_le z9
    exact kB _ _ v i z9 w9 (xbump (f2, h.2)) (hC.p (h2 := xbump (f2, h.2)) (B2 := B + v) c2 s2 t2 (fun x hx => y2 x (by omega)) (Or.inr rfl) (by omega) (by omega) (by omega)) rfl
  · have hv := ctC_le z9
    exact kC _ _ v z9 w9 (f2, h.2) (hC.p (h2 := (f2, h.2)) (B2 := B + v) c2 s2 t2 (fun x hx => y2 x (by omega)) (Or.inl rfl) (by omega) (by omega) (by omega)) rfl
end CA
