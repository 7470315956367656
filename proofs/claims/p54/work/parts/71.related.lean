/-! the class's board and the reference's row show the same -/
def zrG (G : Nat → Int32) (np : Nat) : Prop := ∀ i, np ≤ i → i < 5 → G (20 + i) = 0 ∧ G (15 + i) = 0 ∧ ∀ j, j < 9 → G (30 + 9 * i + j) = 0 ∧ G (75 + 9 * i + j) = 0
def RG (G : Nat → Int32) (mn : Nat → Nat) (np no : Nat) (nn : Int32) (sc : Nat) (ho : Int32) (tr : Nat → Int32) (pl : Nat → XPl) (q : Nat → XQu) : Prop :=
  WG G np no mn ∧ (G 2 = nn ∧ G 3 = ho ∧ G 4 = nI sc) ∧ (∀ j, j < min sc 5 → tr j = gT G sc j) ∧ (∀ i, i < np → eqP (pl i) (gP G i)) ∧ (∀ i, i < no → eqQ (q i) (gQ G mn i)) ∧ zrG G np
theorem gB_ext {G H : Nat → Int32} {a : Nat} (h : ∀ j, j < 9 → H (a + j) = G (a + j)) : eqB (gB H a) (gB G a) := fun j hj => by
  unfold gB
  split
  · rfl
  · have := h (j - 1) (by omega)
    rw [show a + j - 1 = a + (j - 1) by omega]
    exact this
theorem gP_ext {G H : Nat → Int32} {i : Nat} (h1 : H (10 + i) = G (10 + i)) (h2 : H (15 + i) = G (15 + i)) (h3 : H (20 + i) = G (20 + i)) (h4 : ∀ j, j < 9 → H (30 + 9 * i + j) = G (30 + 9 * i + j)) (h5 : ∀ j, j < 9 → H (75 + 9 * i + j) = G (75 + 9 * i + j)) : eqP (gP H i) (gP G i) := by
  refine ⟨h1, h3, ?_, gB_ext h4, gB_ext h5⟩
  show decide (H (15 + i) = 1) = decide (G (15 + i) = 1)
  rw [h2]
theorem gP_all {G H : Nat → Int32} {i : Nat} (hi : i < 5) (h : ∀ x, 10 ≤ x → x < 120 → H x = G x) : eqP (gP H i) (gP G i) :=
  gP_ext (h _ (by omega) (by omega)) (h _ (by omega) (by omega)) (h _ (by omega) (by omega)) (fun j hj => h _ (by omega) (by omega)) (fun j hj => h _ (by omega) (by omega))
theorem gE_ext {G H : Nat → Int32} {i k r : Nat} (h : ∀ x, x < 5 → H (138 + 25 * i + 5 * r + x) = G (138 + 25 * k + 5 * r + x)) : gE H i r = gE G k r := by
  unfold gE
  rw [h 0 (by omega), h 1 (by omega), h 2 (by omega), h 3 (by omega), h 4 (by omega)]
theorem gQ_ext {G H : Nat → Int32} {mn mk : Nat → Nat} {i k : Nat} (h1 : H (120 + i) = G (120 + k)) (h2 : H (126 + i) = G (126 + k)) (h3 : mk i = mn k) (h5 : mn k ≤ 5) (h4 : ∀ x, x < 25 → H (138 + 25 * i + x) = G (138 + 25 * k + x)) : eqQ (gQ H mk i) (gQ G mn k) :=
  ⟨h1, h2, h3, fun r hr => by
    have hr2 : r < mn k := hr
    exact gE_ext (fun x hx => by
      have := h4 (5 * r + x) (by omega)
      rw [show 138 + 25 * i + 5 * r + x = 138 + 25 * i + (5 * r + x) by omega, this, show 138 + 25 * k + 5 * r + x = 138 + 25 * k + (5 * r + x) by omega])⟩
section RGS
variable {G : Nat → Int32} {mn : Nat → Nat} {np no : Nat} {nn : Int32} {sc : Nat} {ho : Int32} {tr : Nat → Int32} {pl : Nat → XPl} {q : Nat → XQu}
theorem zrG_ext {H : Nat → Int32} {m : Nat} (h : zrG G np) (hm : np ≤ m) (e : ∀ x, (15 ≤ x ∧ x < 25) ∨ (30 ≤ x ∧ x < 120) → H x = G x) : zrG H m := fun i h1 h5 => by
  obtain ⟨z1, z2, z3⟩ := h i (by omega) h5
  exact ⟨(e _ (by omega)).trans z1, (e _ (by omega)).trans z2, fun j hj => ⟨(e _ (by omega)).trans (z3 j hj).1, (e _ (by omega)).trans (z3 j hj).2⟩⟩
theorem gT_ext {H : Nat → Int32} (e : ∀ x, 5 ≤ x → x < 10 → H x = G x) (sc j : Nat) : gT H sc j = gT G sc j := e _ (by omega) (by have := Nat.mod_lt (sc - 1 - j) (show 0 < 5 by omega); omega)
theorem RG.join (h : RG G mn np no nn sc ho tr pl q) (hn : np < 5) : RG (xw (xw G (10 + np) 100) 0 (nI (np + 1))) mn (np + 1) no nn sc ho tr (xw pl np (100, (0, (false, (fun _ => 0, fun _ => 0))))) q := by
  obtain ⟨⟨⟨g0, g5⟩, ⟨g1, g6⟩, gm⟩, ⟨r1, r2, r3⟩, r4, r5, r6, r7⟩ := h
  have e : ∀ x, x ≠ 0 → x ≠ 10 + np → xw (xw G (10 + np) 100) 0 (nI (np + 1)) x = G x := fun x h1 h2 => by rw [xw_n h1, xw_n h2]
  refine ⟨⟨⟨xw_s, by omega⟩, ⟨(e _ (by omega) (by omega)).trans g1, g6⟩, fun i hi => ⟨(e _ (by omega) (by omega)).trans (gm i hi).1, (gm i hi).2⟩⟩, ⟨(e _ (by omega) (by omega)).trans r1, (e _ (by omega) (by omega)).trans r2, (e _ (by omega) (by omega)).trans r3⟩, fun j hj => (r4 j hj).trans (gT_ext (fun x h1 h2 => e x (by omega) (by omega)) sc j).symm, fun i hi => ?_, fun i hi => (r6 i hi).tr (gQ_ext (e _ (by omega) (by omega)) (e _ (by omega) (by omega)) rfl (gm i (by omega)).2 (fun x hx => e _ (by omega) (by omega))).symm, zrG_ext r7 (by omega) (fun x hx => e x (by omega) (by omega))⟩
  by_cases z : i = np
  · subst z
    obtain ⟨z1, z2, z3⟩ := r7 i (Nat.le_refl _) hn
    rw [xw_s]
    refine ⟨?_, ?_, ?_, fun j hj => ?_, fun j hj => ?_⟩
    · show (100 : Int32) = xw (xw G (10 + i) 100) 0 (nI (i + 1)) (10 + i)
      rw [xw_n (by omega), xw_s]
    · exact ((e _ (by omega) (by omega)).trans z1).symm
    · show false = decide (xw (xw G (10 + i) 100) 0 (nI (i + 1)) (15 + i) = 1)
      rw [e _ (by omega) (by omega), z2]
      rfl
    · show (0 : Int32) = gB _ _ j
      unfold gB
      split
      · rfl
      · rw [e _ (by omega) (by omega), show 30 + 9 * i + j - 1 = 30 + 9 * i + (j - 1) by omega, (z3 _ (by omega)).1]
    · show (0 : Int32) = gB _ _ j
      unfold gB
      split
      · rfl
      · rw [e _ (by omega) (by omega), show 75 + 9 * i + j - 1 = 75 + 9 * i + (j - 1) by omega, (z3 _ (by omega)).2]
  · rw [xw_n z]
    exact (r5 i (by omega)).tr (gP_ext (e _ (by omega) (by omega)) (e _ (by omega) (by omega)) (e _ (by omega) (by omega)) (fun j hj => e _ (by omega) (by omega)) (fun j hj => e _ (by omega) (by omega))).symm
theorem RG.ask (h : RG G mn np no nn sc ho tr pl q) (hn : no < 6) (w : Int32) : RG (gAsk G no w) (xw mn no 0) np (no + 1) (nn + 1) sc ho tr pl (xw q no (nn, (w, (0, (q no).2.2.2)))) := by
  obtain ⟨⟨⟨g0, g5⟩, ⟨g1, g6⟩, gm⟩, ⟨r1, r2, r3⟩, r4, r5, r6, r7⟩ := h
  have e : ∀ x, x ≠ 120 + no → x ≠ 126 + no → x ≠ 132 + no → x ≠ 1 → x ≠ 2 → gAsk G no w x = G x := fun x h1 h2 h3 h4 h5 => by
    unfold gAsk
    rw [xw_n h5, xw_n h4, xw_n h3, xw_n h2, xw_n h1]
  have em : gAsk G no w (132 + no) = 0 := by
    unfold gAsk
    rw [xw_n (by omega), xw_n (by omega), xw_s]
  have en : gAsk G no w (120 + no) = G 2 := by
    unfold gAsk
    rw [xw_n (by omega), xw_n (by omega), xw_n (by omega), xw_n (by omega), xw_s]
  have ew : gAsk G no w (126 + no) = w := by
    unfold gAsk
    rw [xw_n (by omega), xw_n (by omega), xw_n (by omega), xw_s]
  have e1 : gAsk G no w 1 = nI (no + 1) := by
    unfold gAsk
    rw [xw_n (by omega), xw_s]
  have e2 : gAsk G no w 2 = G 2 + 1 := by
    unfold gAsk
    rw [xw_s]
  refine ⟨⟨⟨(e _ (by omega) (by omega) (by omega) (by omega) (by omega)).trans g0, g5⟩, ⟨e1, by omega⟩, fun i hi => ?_⟩, ⟨e2.trans (by rw [r1]), (e _ (by omega) (by omega) (by omega) (by omega) (by omega)).trans r2, (e _ (by omega) (by omega) (by omega) (by omega) (by omega)).trans r3⟩, fun j hj => (r4 j hj).trans (gT_ext (fun x h1 h2 => e x (by omega) (by omega) (by omega) (by omega) (by omega)) sc j).symm, fun i hi => (r5 i hi).tr (gP_all (by omega) (fun x h1 h2 => e x (by omega) (by omega) (by omega) (by omega) (by omega))).symm, fun i hi => ?_, zrG_ext r7 (by omega) (fun x hx => e x (by omega) (by omega) (by omega) (by omega) (by omega))⟩
  · by_cases z : i = no
    · subst z
      rw [xw_s]
      exact ⟨em, by omega⟩
    · rw [xw_n z]
      exact ⟨(e _ (by omega) (by omega) (by omega) (by omega) (by omega)).trans (gm i hi).1, (gm i hi).2⟩
  · by_cases z : i = no
    · subst z
      rw [xw_s]
      exact ⟨r1.symm.trans en.symm, ew.symm, by show 0 = xw mn i 0 i; rw [xw_s], fun r hr => by
        have hr2 : r < xw mn i 0 i := hr
        rw [xw_s] at hr2
        omega⟩
    · rw [xw_n z]
      exact (r6 i (by omega)).tr (gQ_ext (e _ (by omega) (by omega) (by omega) (by omega) (by omega)) (e _ (by omega) (by omega) (by omega) (by omega) (by omega)) (xw_n z) (gm i (by omega)).2 (fun x hx => e _ (by omega) (by omega) (by omega) (by omega) (by omega))).symm
theorem RG.bet (h : RG G mn np no nn sc ho tr pl q) {i j m : Nat} (hi : i < np) (hj : j < no) (hm : mn j = m) (hm5 : m < 5) (lo hi_ c s : Int32) : RG (gBet G i j m lo hi_ c s) (xw mn j (m + 1)) np no nn sc ho tr (xw pl i ((pl i).1 - s, (pl i).2)) (xw q j ((q j).1, ((q j).2.1, ((q j).2.2.1 + 1, xw (q j).2.2.2 (q j).2.2.1 (nI i, (lo, (hi_, (c, s)))))))) := by
  obtain ⟨⟨⟨g0, g5⟩, ⟨g1, g6⟩, gm⟩, ⟨r1, r2, r3⟩, r4, r5, r6, r7⟩ := h
  have e : ∀ x, x ≠ 10 + i → x ≠ 132 + j → (x < 138 + 25 * j + 5 * m ∨ 138 + 25 * j + 5 * m + 5 ≤ x) → gBet G i j m lo hi_ c s x = G x := fun x h1 h2 h3 => by
    unfold gBet
    rw [xw_n h1, xw_n h2, xw_n (by omega), xw_n (by omega), xw_n (by omega), xw_n (by omega), xw_n (by omega)]
  have ec : gBet G i j m lo hi_ c s (10 + i) = G (10 + i) - s := by
    unfold gBet
    rw [xw_s]
  have em : gBet G i j m lo hi_ c s (132 + j) = nI (m + 1) := by
    unfold gBet
    rw [xw_n (by omega), xw_s]
  have ee : gE (gBet G i j m lo hi_ c s) j m = (nI i, (lo, (hi_, (c, s)))) := by
    unfold gE gBet
    refine Prod.ext ?_ (Prod.ext ?_ (Prod.ext ?_ (Prod.ext ?_ ?_))) <;> dsimp only <;> unfold xw <;> (repeat' split) <;> first | rfl | (exfalso; omega)
  refine ⟨⟨⟨(e _ (by omega) (by omega) (by omega)).trans g0, g5⟩, ⟨(e _ (by omega) (by omega) (by omega)).trans g1, g6⟩, fun x hx => ?_⟩, ⟨(e _ (by omega) (by omega) (by omega)).trans r1, (e _ (by omega) (by omega) (by omega)).trans r2, (e _ (by omega) (by omega) (by omega)).trans r3⟩, fun y hy => (r4 y hy).trans (gT_ext (fun x h1 h2 => e x (by omega) (by omega) (by omega)) sc y).symm, fun x hx => ?_, fun x hx => ?_, zrG_ext r7 (by omega) (fun x hx => e x (by omega) (by omega) (by omega))⟩
  · by_cases z : x = j
    · subst z
      rw [xw_s]
      exact ⟨em, by omega⟩
    · rw [xw_n z]
      exact ⟨(e _ (by omega) (by omega) (by omega)).trans (gm x hx).1, (gm x hx).2⟩
  · by_cases z : x = i
    · subst z
      rw [xw_s]
      obtain ⟨u1, u2, u3, u4, u5⟩ := (r5 x hx).tr (eqP.symm (gP_all (G := G) (H := xw (gBet G x j m lo hi_ c s) (10 + x) (G (10 + x))) (i := x) (by omega) (fun y h1 h2 => by
        by_cases zz : y = 10 + x
        · rw [zz, xw_s]
        · rw [xw_n zz]; exact e y zz (by omega) (by omega))))
      refine ⟨?_, u2.trans (xw_n (by omega)), u3.trans ?_, u4.tr (gB_ext (fun y hy => xw_n (by omega))), u5.tr (gB_ext (fun y hy => xw_n (by omega)))⟩
      · show (pl x).1 - s = gBet G x j m lo hi_ c s (10 + x)
        rw [ec, (r5 x hx).1]
        rfl
      · show decide (xw _ _ _ (15 + x) = 1) = _
        rw [xw_n (by omega)]
        rfl
    · rw [xw_n z]
      exact (r5 x hx).tr (gP_ext (e _ (by omega) (by omega) (by omega)) (e _ (by omega) (by omega) (by omega)) (e _ (by omega) (by omega) (by omega)) (fun y hy => e _ (by omega) (by omega) (by omega)) (fun y hy => e _ (by omega) (by omega) (by omega))).symm
  · by_cases z : x = j
    · subst z
      rw [xw_s]
      obtain ⟨u1, u2, u3, u4⟩ := r6 x hx
      have u3 : (q x).2.2.1 = mn x := u3
      refine ⟨u1.trans (e _ (by omega) (by omega) (by omega)).symm, u2.trans (e _ (by omega) (by omega) (by omega)).symm, ?_, fun r hr => ?_⟩
      · show (q x).2.2.1 + 1 = xw mn x (m + 1) x
        rw [xw_s, u3, hm]
      · have hr2 : r < xw mn x (m + 1) x := hr
        rw [xw_s] at hr2
        show xw (q x).2.2.2 (q x).2.2.1 (nI i, (lo, (hi_, (c, s)))) r = gE _ x r
        rw [u3, hm]
        by_cases y : r = m
        · rw [y, xw_s, ee]
        · rw [xw_n y, u4 r (by show r < mn x; omega)]
          exact (gE_ext (fun y hy => e _ (by omega) (by omega) (by omega))).symm
    · rw [xw_n z]
      exact (r6 x hx).tr (gQ_ext (e _ (by omega) (by omega) (by omega)) (e _ (by omega) (by omega) (by omega)) (xw_n z) (gm x (by omega)).2 (fun y hy => e _ (by omega) (by omega) (by omega))).symm
theorem RG.post (h : RG G mn np no nn sc ho tr pl q) (h0 : 0 < no) : RG (gPst G no) (rot mn 0 (no - 1)) np no nn sc ho tr pl (rot q 0 (no - 1)) := by
  obtain ⟨⟨⟨g0, g5⟩, ⟨g1, g6⟩, gm⟩, ⟨r1, r2, r3⟩, r4, r5, r6, r7⟩ := h
  have e : ∀ x, x ≠ 1 → x < 120 → gPst G no x = G x := fun x h1 h2 => by
    unfold gPst drF
    (repeat' split) <;> first | rfl | (exfalso; omega)
  have e1 : gPst G no 1 = nI no := if_pos rfl
  have eo : ∀ i x, no ≤ i → i < 6 → (x = 120 + i ∨ x = 126 + i ∨ x = 132 + i) → gPst G no x = G x := fun i x h1 h2 h3 => by
    unfold gPst drF
    (repeat' split) <;> first | rfl | (exfalso; omega)
  have ei : ∀ i, i < no → ∀ k, (k = 120 ∨ k = 126 ∨ k = 132) → gPst G no (k + i) = G (k + rotI 0 (no - 1) i) := fun i hi k hk => by
    unfold gPst drF rotI
    (repeat' split) <;> first | rfl | (exfalso; omega) | (congr 1; omega)
  have ex : ∀ i, i < no → ∀ x, x < 25 → gPst G no (138 + 25 * i + x) = G (138 + 25 * rotI 0 (no - 1) i + x) := fun i hi x hx => by
    unfold gPst drF rotI
    (repeat' split) <;> first | rfl | (exfalso; omega) | (congr 1; omega)
  have er : ∀ i, i < no → rotI 0 (no - 1) i < no := fun i hi => by
    unfold rotI
    (repeat' split) <;> omega
  refine ⟨⟨⟨(e _ (by omega) (by omega)).trans g0, g5⟩, ⟨e1, g6⟩, fun i hi => ?_⟩, ⟨(e _ (by omega) (by omega)).trans r1, (e _ (by omega) (by omega)).trans r2, (e _ (by omega) (by omega)).trans r3⟩, fun j hj => (r4 j hj).trans (gT_ext (fun x h1 h2 => e x (by omega) (by omega)) sc j).symm, fun i hi => (r5 i hi).tr (gP_all (by omega) (fun x h1 h2 => e x (by omega) (by omega))).symm, fun i hi => ?_, zrG_ext r7 (by omega) (fun x hx => e x (by omega) (by omega))⟩
  · rw [rot_I]
    by_cases z : i < no
    · skip
      exact ⟨(ei i z 132 (by omega)).trans (gm _ (by have := er i z; omega)).1, (gm _ (by have := er i z; omega)).2⟩
    · rw [show rotI 0 (no - 1) i = i from by unfold rotI; (repeat' split) <;> omega]
      exact ⟨(eo i _ (by omega) hi (by omega)).trans (gm i hi).1, (gm i hi).2⟩
  · rw [rot_I]
    have := er i hi
    exact (r6 _ this).tr (gQ_ext (ei i hi 120 (by omega)) (ei i hi 126 (by omega)) (rot_I _ _ _ _) (gm _ (by omega)).2 (ex i hi)).symm
end RGS
