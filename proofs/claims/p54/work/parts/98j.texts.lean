/-! rows that agree below 288 show the same -/
section CG
variable {G H : Nat → Int32}
theorem gP_cg (e : ∀ i, i < 288 → H i = G i) {i : Nat} (hi : i < 5) : eqP (gP G i) (gP H i) := by
  have hB : ∀ a, a + 9 ≤ 288 → eqB (gB G a) (gB H a) := fun a ha j hj => by
    unfold gB
    by_cases z : j = 0
    · rw [if_pos z, if_pos z]
    · rw [if_neg z, if_neg z, e _ (by omega)]
  exact ⟨(e _ (by omega)).symm, (e _ (by omega)).symm, congrArg (fun z => decide (z = (1 : Int32))) (e (15 + i) (by omega)).symm, hB _ (by omega), hB _ (by omega)⟩
theorem gQ_cg (e : ∀ i, i < 288 → H i = G i) {mn : Nat → Nat} {i : Nat} (hi : i < 6) (hm : mn i ≤ 5) : eqQ (gQ G mn i) (gQ H mn i) := by
  refine ⟨(e _ (by omega)).symm, (e _ (by omega)).symm, rfl, fun r hr => ?_⟩
  have hr : r < mn i := hr
  show gE G i r = gE H i r
  unfold gE
  rw [e _ (by omega), e _ (by omega), e _ (by omega), e _ (by omega), e _ (by omega)]
theorem RG.cong {mn : Nat → Nat} {np no : Nat} {nn : Int32} {sc : Nat} {ho : Int32} {tr : Nat → Int32} {pl : Nat → XPl} {q : Nat → XQu} (e : ∀ i, i < 288 → H i = G i) (h : RG G mn np no nn sc ho tr pl q) : RG H mn np no nn sc ho tr pl q := by
  obtain ⟨⟨⟨g0, g5⟩, ⟨g1, g6⟩, gm⟩, ⟨r1, r2, r3⟩, r5, r6, r7, r8⟩ := h
  refine ⟨⟨⟨(e 0 (by omega)).trans g0, g5⟩, ⟨(e 1 (by omega)).trans g1, g6⟩, fun i hi => ⟨(e _ (by omega)).trans (gm i hi).1, (gm i hi).2⟩⟩, ⟨(e _ (by omega)).trans r1, (e _ (by omega)).trans r2, (e _ (by omega)).trans r3⟩, fun j hj => (r5 j hj).trans ?_, fun i hi => (r6 i hi).tr (gP_cg e (by omega)), fun i hi => (r7 i hi).tr (gQ_cg e (by omega) (gm i (by omega)).2), fun i h1 h2 => ?_⟩
  · unfold gT
    exact (e _ (by omega)).symm
  · obtain ⟨k1, k2, k3⟩ := r8 i h1 h2
    exact ⟨(e _ (by omega)).trans k1, (e _ (by omega)).trans k2, fun j hj => ⟨(e _ (by omega)).trans (k3 j hj).1, (e _ (by omega)).trans (k3 j hj).2⟩⟩
theorem Sim.cong {f : Nat → Option XE} {b K : Nat} (e : ∀ i, i < 288 → H i = G i) (h : Sim f b G K) : Sim f b H K := by
  obtain ⟨mn, np, no, nn, N, sc, ho, TS, TH, tr, pl, q, s, R, hB, hr, hk⟩ := h
  exact ⟨mn, np, no, nn, N, sc, ho, TS, TH, tr, pl, q, s, R, hB, hr.cong e, hk⟩
theorem Ca.cong {B : Nat} {Hh Sv : Nat → Int32} {ch : Nat} {sv : Bool} {ea fa : Int32} {tn : Nat} {Bu : Nat → Int32} {h : XH} (e : ∀ i, i < 288 → H i = G i) (hC : Ca B G Hh Sv ch sv ea fa tn Bu h) : Ca B H Hh Sv ch sv ea fa tn Bu h := by
  obtain ⟨pos, K, c1, c2, c3⟩ := hC
  exact ⟨pos, K, c1, c2.cong e, c3⟩
end CG
/-! the history's rows -/
theorem psh_1 {ch : Nat} {H G : Nat → Int32} (h8 : ch ≤ 8) : ∀ i, i < 288 → psh ch H G ((min (ch + 1) 8 - 1) * 288 + i) = G i := fun i hi => by
  unfold psh
  by_cases z : ch < 8
  · rw [if_pos z]
    have e : min (ch + 1) 8 - 1 = ch := by omega
    rw [e]
    show (if _ then _ else _) = _
    rw [if_pos (by omega), show ch * 288 + i - ch * 288 = i by omega]
  · rw [if_neg z]
    have e : min (ch + 1) 8 - 1 = 7 := by omega
    rw [e]
    show (if _ then _ else _) = _
    rw [if_neg (by omega), show 7 * 288 + i - 2016 = i by omega]
theorem psh_2 {ch : Nat} {H G : Nat → Int32} (h8 : ch ≤ 8) {t : Nat} (ht : 1 ≤ t) (hc : t ≤ ch) (ht8 : t ≤ 7) : ∀ i, i < 288 → psh ch H G ((min (ch + 1) 8 - 1 - t) * 288 + i) = H ((ch - t) * 288 + i) := fun i hi => by
  unfold psh
  by_cases z : ch < 8
  · rw [if_pos z]
    have e : min (ch + 1) 8 - 1 - t = ch - t := by omega
    rw [e]
    show (if _ then _ else _) = _
    rw [if_neg (by omega)]
  · rw [if_neg z]
    have e : min (ch + 1) 8 - 1 - t = 7 - t := by omega
    have e2 : ch - t = 7 - t + 1 := by omega
    rw [e, e2]
    show (if _ then _ else _) = _
    rw [if_pos (by omega), show (7 - t) * 288 + i + 288 = (7 - t + 1) * 288 + i by omega]
/-! commands, one after another -/
def zN : Nat → Int32 := fun _ => 0
section EX
variable {C : Nat → Int32} {n m v p c : Nat} {nu G : Nat → Int32}
theorem exC_go {j p2 : Nat} (h1 : (rdA C n p 6 0 p 0 zN).1 = some j) (hp : (if (rdA C n p 6 0 p 0 zN).2.1 < n ∧ C (rdA C n p 6 0 p 0 zN).2.1 = 59 then (rdA C n p 6 0 p 0 zN).2.1 + 1 else (rdA C n p 6 0 p 0 zN).2.1) = p2) {G2 : Nat → Int32} (hf : flG G (nmC (rdA C n p 6 0 p 0 zN).2.2.1 (rdA C n p 6 0 p 0 zN).2.2.2) j = 0) (hg : gcG G (nmC (rdA C n p 6 0 p 0 zN).2.2.1 (rdA C n p 6 0 p 0 zN).2.2.2) j = G2) : (exC C n (m + 1) v p 0 zN G).1 = (exC C n m (v + 1) p2 0 zN G2).1 ∧ (exC C n (m + 1) v p 0 zN G).2.1 = (exC C n m (v + 1) p2 0 zN G2).2.1 := by
  have e := exC_cg (n := n) (Bu := C) (Cu := C) (fun _ _ => rfl) m (v + 1) p2 (rdA C n p 6 0 p 0 zN).2.2.1 0 (rdA C n p 6 0 p 0 zN).2.2.2 zN G2
  rw [exC_s, h1]
  dsimp only
  rw [if_pos hf, hp, hg]
  exact e
theorem exC_no {j : Nat} (h1 : (rdA C n p 6 0 p 0 zN).1 = some j) (hf : flG G (nmC (rdA C n p 6 0 p 0 zN).2.2.1 (rdA C n p 6 0 p 0 zN).2.2.2) j ≠ 0) : (exC C n (m + 1) v p 0 zN G).1 = some v := by
  rw [exC_s, h1]
  dsimp only
  rw [if_neg hf]
end EX
theorem noG_1 {G : Nat → Int32} {n : Nat} (h : G 1 = nI n) (hn : n ≤ 6) : noG G = n := by
  unfold noG
  rw [h, nI_clamp (by omega)]
theorem gPst_no {G : Nat → Int32} {no : Nat} (hn : no ≤ 6) : noG (gPst G no) = no := noG_1 rfl hn
theorem gSet_no {G : Nat → Int32} {no m sc : Nat} {t : Int32} (hn : no ≤ 6) : noG (gSet G no m sc t) = no - 1 := by
  have e : gSet G no m sc t 1 = nI (no - 1) := by
    unfold gSet xw
    rw [if_neg (by omega), if_neg (by omega), if_pos rfl]
  exact noG_1 e (by omega)
def g1R (G : Nat → Int32) : Nat → Int32 := gPst G (noG G)
def gsR (G : Nat → Int32) (t : Int32) : Nat → Int32 := gSet G (noG G) (mnG G 0) (scG G) t
def g2R (G : Nat → Int32) : Nat → Int32 := gsR (g1R G) 120
def g3R (G : Nat → Int32) : Nat → Int32 := gsR (g2R G) 7
theorem g1_no {G : Nat → Int32} (h : noG G ≤ 6) : noG (g1R G) = noG G := gPst_no h
theorem g2_no {G : Nat → Int32} (h : noG G ≤ 6) : noG (g2R G) = noG G - 1 := by
  unfold g2R gsR
  rw [gSet_no (by rw [g1_no h]; exact h), g1_no h]
theorem flG_3 {G x : Nat → Int32} : flG G x 3 = settF (noG G) (x 0) := rfl
theorem gcG_3 {G x : Nat → Int32} : gcG G x 3 = gsR G (x 0) := rfl
theorem t6_1 : (rdA (cl (xfB 6)) 25 0 6 0 0 0 zN).1 = some 4 ∧ (if (rdA (cl (xfB 6)) 25 0 6 0 0 0 zN).2.1 < 25 ∧ (cl (xfB 6)) (rdA (cl (xfB 6)) 25 0 6 0 0 0 zN).2.1 = 59 then (rdA (cl (xfB 6)) 25 0 6 0 0 0 zN).2.1 + 1 else (rdA (cl (xfB 6)) 25 0 6 0 0 0 zN).2.1) = 6 := by decide +kernel
theorem t6_2 : (rdA (cl (xfB 6)) 25 6 6 0 6 0 zN).1 = some 3 ∧ (if (rdA (cl (xfB 6)) 25 6 6 0 6 0 zN).2.1 < 25 ∧ (cl (xfB 6)) (rdA (cl (xfB 6)) 25 6 6 0 6 0 zN).2.1 = 59 then (rdA (cl (xfB 6)) 25 6 6 0 6 0 zN).2.1 + 1 else (rdA (cl (xfB 6)) 25 6 6 0 6 0 zN).2.1) = 17 ∧ nmC (rdA (cl (xfB 6)) 25 6 6 0 6 0 zN).2.2.1 (rdA (cl (xfB 6)) 25 6 6 0 6 0 zN).2.2.2 0 = 120 := by decide +kernel
theorem t6_3 : (rdA (cl (xfB 6)) 25 17 6 0 17 0 zN).1 = some 3 ∧ (if (rdA (cl (xfB 6)) 25 17 6 0 17 0 zN).2.1 < 25 ∧ (cl (xfB 6)) (rdA (cl (xfB 6)) 25 17 6 0 17 0 zN).2.1 = 59 then (rdA (cl (xfB 6)) 25 17 6 0 17 0 zN).2.1 + 1 else (rdA (cl (xfB 6)) 25 17 6 0 17 0 zN).2.1) = 25 ∧ nmC (rdA (cl (xfB 6)) 25 17 6 0 17 0 zN).2.2.1 (rdA (cl (xfB 6)) 25 17 6 0 17 0 zN).2.2.2 0 = 7 := by decide +kernel
theorem t6_c : (ctC (cl (xfB 6)) 25 60 1 0 0 zN).1 = some 3 := by decide +kernel
theorem settF_0 {no : Nat} {t : Int32} (h : 0 ≤ t ∧ t ≤ 999) (hn : 0 < no) : settF no t = 0 := by
  unfold settF postF
  rw [if_pos h, if_pos hn]
theorem settF_2 {t : Int32} (h : 0 ≤ t ∧ t ≤ 999) : settF 0 t = 2 := by
  unfold settF postF
  rw [if_pos h, if_neg (by omega)]
/-- the text of three commands -/
theorem t6_all {G : Nat → Int32} (h2 : 1 < noG G) (h6 : noG G ≤ 6) (Bu : Nat → Int32) (c : Nat) (nu : Nat → Int32) : (ctC (putB Bu (xfB 6) 25) 25 60 1 0 c nu).1 = some 3 ∧ (exC (putB Bu (xfB 6) 25) 25 3 0 0 (ctC (putB Bu (xfB 6) 25) 25 60 1 0 c nu).2.2.1 (ctC (putB Bu (xfB 6) 25) 25 60 1 0 c nu).2.2.2 G).1 = none ∧ (exC (putB Bu (xfB 6) 25) 25 3 0 0 (ctC (putB Bu (xfB 6) 25) 25 60 1 0 c nu).2.2.1 (ctC (putB Bu (xfB 6) 25) 25 60 1 0 c nu).2.2.2 G).2.1 = g3R G := by
  refine ⟨(ctC_cg putB_cl 60 1 0 c 0 nu zN).1.trans t6_c, ?_⟩
  have e := exC_cg (putB_cl (Bu := Bu) (L := xfB 6) (n := 25)) 3 0 0 (ctC (putB Bu (xfB 6) 25) 25 60 1 0 c nu).2.2.1 0 (ctC (putB Bu (xfB 6) 25) 25 60 1 0 c nu).2.2.2 zN G
  have a1 := exC_go (m := 2) (v := 0) (G := G) (G2 := g1R G) t6_1.1 t6_1.2 (show postF (noG G) = 0 by unfold postF; exact if_pos (by omega)) rfl
  have a2 := exC_go (m := 1) (v := 1) (G := g1R G) (G2 := g2R G) t6_2.1 t6_2.2.1 (flG_3.trans (by rw [t6_2.2.2, g1_no h6]; exact settF_0 (by decide) (by omega))) (gcG_3.trans (by rw [t6_2.2.2]; rfl))
  have a3 := exC_go (m := 0) (v := 2) (G := g2R G) (G2 := g3R G) t6_3.1 t6_3.2.1 (flG_3.trans (by rw [t6_3.2.2, g2_no h6]; exact settF_0 (by decide) (by omega))) (gcG_3.trans (by rw [t6_3.2.2]; rfl))
  exact ⟨e.1.trans (a1.1.trans (a2.1.trans (a3.1.trans rfl))), e.2.trans (a1.2.trans (a2.2.trans (a3.2.trans rfl)))⟩
/-- the same text where fewer than two questions are open -/
theorem t6_few {G : Nat → Int32} (h2 : noG G ≤ 1) (Bu : Nat → Int32) (c : Nat) (nu : Nat → Int32) : (ctC (putB Bu (xfB 6) 25) 25 60 1 0 c nu).1 = some 3 ∧ (exC (putB Bu (xfB 6) 25) 25 3 0 0 (ctC (putB Bu (xfB 6) 25) 25 60 1 0 c nu).2.2.1 (ctC (putB Bu (xfB 6) 25) 25 60 1 0 c nu).2.2.2 G).1 = some (if noG G = 0 then 0 else 2) := by
  refine ⟨(ctC_cg putB_cl 60 1 0 c 0 nu zN).1.trans t6_c, ?_⟩
  have e := exC_cg (putB_cl (Bu := Bu) (L := xfB 6) (n := 25)) 3 0 0 (ctC (putB Bu (xfB 6) 25) 25 60 1 0 c nu).2.2.1 0 (ctC (putB Bu (xfB 6) 25) 25 60 1 0 c nu).2.2.2 zN G
  by_cases h0 : noG G = 0
  · rw [if_pos h0]
    exact e.1.trans (exC_no t6_1.1 (show postF (noG G) ≠ 0 by rw [h0]; decide))
  · rw [if_neg h0]
    have h6 : noG G ≤ 6 := by omega
    have a1 := exC_go (m := 2) (v := 0) (G := G) (G2 := g1R G) t6_1.1 t6_1.2 (show postF (noG G) = 0 by unfold postF; exact if_pos (by omega)) rfl
    have a2 := exC_go (m := 1) (v := 1) (G := g1R G) (G2 := g2R G) t6_2.1 t6_2.2.1 (flG_3.trans (by rw [t6_2.2.2, g1_no h6]; exact settF_0 (by decide) (by omega))) (gcG_3.trans (by rw [t6_2.2.2]; rfl))
    have a3 := exC_no (m := 0) (v := 2) (G := g2R G) t6_3.1 (by rw [flG_3, t6_3.2.2, g2_no h6, show noG G - 1 = 0 by omega]; decide)
    exact e.1.trans (a1.1.trans (a2.1.trans a3))
theorem noPl_9 {np : Nat} (h : np ≤ 5) : ¬ isPl np 9 := fun z => by
  have := (nI_ltN (x := (9 : Int32)) (y := nI np) (nI_k 9) rfl (by omega) (by omega)).mp z.2
  omega
theorem t7_c : (ctC (cl (xfB 7)) 5 60 1 0 0 zN).1 = some 1 ∧ (rdA (cl (xfB 7)) 5 0 6 0 0 0 zN).1 = some 5 ∧ nmC (rdA (cl (xfB 7)) 5 0 6 0 0 0 zN).2.2.1 (rdA (cl (xfB 7)) 5 0 6 0 0 0 zN).2.2.2 0 = 9 := by decide +kernel
theorem t7_all {G : Nat → Int32} (h5 : npG G ≤ 5) (Bu : Nat → Int32) (c : Nat) (nu : Nat → Int32) : (ctC (putB Bu (xfB 7) 5) 5 60 1 0 c nu).1 = some 1 ∧ (exC (putB Bu (xfB 7) 5) 5 1 0 0 (ctC (putB Bu (xfB 7) 5) 5 60 1 0 c nu).2.2.1 (ctC (putB Bu (xfB 7) 5) 5 60 1 0 c nu).2.2.2 G).1 = some 0 := by
  refine ⟨(ctC_cg putB_cl 60 1 0 c 0 nu zN).1.trans t7_c.1, ?_⟩
  have e := exC_cg (putB_cl (Bu := Bu) (L := xfB 7) (n := 5)) 1 0 0 (ctC (putB Bu (xfB 7) 5) 5 60 1 0 c nu).2.2.1 0 (ctC (putB Bu (xfB 7) 5) 5 60 1 0 c nu).2.2.2 zN G
  refine e.1.trans (exC_no t7_c.2.1 (show leavF (npG G) (gP G) _ ≠ 0 by
    rw [t7_c.2.2]
    unfold leavF
    rw [if_neg (noPl_9 h5)]
    decide))
theorem t8_c : (ctC (cl (xfB 8)) 15 60 1 0 0 zN).1 = some 1 ∧ (rdA (cl (xfB 8)) 15 0 6 0 0 0 zN).1 = some 2 ∧ nmC (rdA (cl (xfB 8)) 15 0 6 0 0 0 zN).2.2.1 (rdA (cl (xfB 8)) 15 0 6 0 0 0 zN).2.2.2 0 = 9 := by decide +kernel
theorem t8_all {G : Nat → Int32} (h5 : npG G ≤ 5) (Bu : Nat → Int32) (c : Nat) (nu : Nat → Int32) : (ctC (putB Bu (xfB 8) 15) 15 60 1 0 c nu).1 = some 1 ∧ (exC (putB Bu (xfB 8) 15) 15 1 0 0 (ctC (putB Bu (xfB 8) 15) 15 60 1 0 c nu).2.2.1 (ctC (putB Bu (xfB 8) 15) 15 60 1 0 c nu).2.2.2 G).1 = some 0 := by
  refine ⟨(ctC_cg putB_cl 60 1 0 c 0 nu zN).1.trans t8_c.1, ?_⟩
  have e := exC_cg (putB_cl (Bu := Bu) (L := xfB 8) (n := 15)) 1 0 0 (ctC (putB Bu (xfB 8) 15) 15 60 1 0 c nu).2.2.1 0 (ctC (putB Bu (xfB 8) 15) 15 60 1 0 c nu).2.2.2 zN G
  refine e.1.trans (exC_no t8_c.2.1 (show betF (npG G) (noG G) (gP G) (gQ G (mnG G)) _ _ _ _ _ _ ≠ 0 by
    rw [t8_c.2.2]
    unfold betF
    rw [if_neg (noPl_9 h5)]
    decide))
