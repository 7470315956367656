/-! the relation, kept by settling -/
theorem xdist_eq {e : XEst} {l u k : Nat} (h1 : e.2.1 = nI l) (h2 : e.2.2.1 = nI u) (hlu : l ≤ u) (hu : u ≤ 999) (hk : k ≤ 999) : xdist e (nI k) = xdistM e (nI k) ∧ hitB e (nI k) = decide (xdistM e (nI k) ≤ 0) := by
  unfold xdist xdistM hitB xmx
  rw [h1, h2]
  have t1 := nI_subI (a := l) (b := k) (by omega) (by omega)
  have t2 := nI_subI (a := k) (b := u) (by omega) (by omega)
  have t0 : (0 : Int32).toInt = 0 := rfl
  have tk := nI_toInt (n := k) (by omega)
  have tl := nI_toInt (n := l) (by omega)
  have tu := nI_toInt (n := u) (by omega)
  simp only [Int32.lt_iff_toInt_lt, Int32.le_iff_toInt_le, tk, tl, tu, t0]
  rcases Nat.lt_or_ge k l with z | z
  · rw [if_neg (show ¬ (nI l - nI k).toInt < (nI k - nI u).toInt by omega), if_pos (show (0 : Int) < (nI l - nI k).toInt by omega), if_pos (show (k : Int) < l by omega)]
    refine ⟨rfl, ?_⟩
    rw [decide_eq_false (by omega), decide_eq_false (by omega)]
  · rcases Nat.lt_or_ge u k with y | y
    · rw [if_pos (show (nI l - nI k).toInt < (nI k - nI u).toInt by omega), if_pos (show (0 : Int) < (nI k - nI u).toInt by omega), if_neg (show ¬ (k : Int) < l by omega), if_pos (show (u : Int) < k by omega)]
      refine ⟨rfl, ?_⟩
      rw [decide_eq_false (by omega), decide_eq_false (by omega)]
    · rw [if_neg (show ¬ (k : Int) < l by omega), if_neg (show ¬ (u : Int) < k by omega)]
      refine ⟨?_, by rw [decide_eq_true (by omega), decide_eq_true (by rw [t0]; omega)]⟩
      split
      · rw [if_neg (show ¬ (0 : Int) < (nI k - nI u).toInt by omega)]
      · rw [if_neg (show ¬ (0 : Int) < (nI l - nI k).toInt by omega)]
theorem xpts_eq {e : XEst} {t : Int32} (h : xdist e t = xdistM e t) : xpts e t = xptsM e t := by
  unfold xpts xptsM
  rw [h]
section S1
variable {G : Nat → Int32} {i j : Nat} {e : XEst} {wt t : Int32}
theorem s1_out {y : Nat} (h1 : y ≠ 20 + i) (h2 : y ≠ 30 + (9 * i + j - 1)) (h3 : y ≠ 75 + (9 * i + j - 1)) (h4 : y ≠ 10 + i) (h5 : y ≠ 3) : s1G G i j e wt t y = G y := by
  unfold s1G s1A
  split
  · rw [xw_n h5, xw_n h4, xw_n h3, xw_n h2, xw_n h1]
  · rw [xw_n h5, xw_n h2, xw_n h1]
theorem s1_sc (hi : i < 5) (h1 : 1 ≤ j) (h9 : j ≤ 9) : s1G G i j e wt t (20 + i) = G (20 + i) + wt * xptsM e t := by
  unfold s1G s1A
  split
  · rw [xw_n (by omega), xw_n (by omega), xw_n (by omega), xw_n (by omega), xw_s]
  · rw [xw_n (by omega), xw_n (by omega), xw_s]
theorem s1_sz (hi : i < 5) (h1 : 1 ≤ j) (h9 : j ≤ 9) : s1G G i j e wt t (30 + (9 * i + j - 1)) = G (30 + (9 * i + j - 1)) + 1 := by
  unfold s1G s1A
  split
  · rw [xw_n (by omega), xw_n (by omega), xw_n (by omega), xw_s]
  · rw [xw_n (by omega), xw_s]
theorem s1_ht (hi : i < 5) (h1 : 1 ≤ j) (h9 : j ≤ 9) : s1G G i j e wt t (75 + (9 * i + j - 1)) = bif decide (xdistM e t ≤ 0) then G (75 + (9 * i + j - 1)) + 1 else G (75 + (9 * i + j - 1)) := by
  unfold s1G s1A
  by_cases z : xdistM e t ≤ 0
  · rw [if_pos z, decide_eq_true z, xw_n (by omega), xw_n (by omega), xw_s]; rfl
  · rw [if_neg z, decide_eq_false z, xw_n (by omega), xw_n (by omega), xw_n (by omega)]; rfl
theorem s1_co (hi : i < 5) (h1 : 1 ≤ j) (h9 : j ≤ 9) : s1G G i j e wt t (10 + i) = bif decide (xdistM e t ≤ 0) then G (10 + i) + (e.2.2.2.2 + xprize e) else G (10 + i) := by
  unfold s1G s1A
  by_cases z : xdistM e t ≤ 0
  · rw [if_pos z, decide_eq_true z, xw_n (by omega), xw_s]; rfl
  · rw [if_neg z, decide_eq_false z, xw_n (by omega), xw_n (by omega), xw_n (by omega)]; rfl
theorem s1_ho : s1G G i j e wt t 3 = bif decide (xdistM e t ≤ 0) then G 3 - xprize e else G 3 + e.2.2.2.2 := by
  unfold s1G
  by_cases z : xdistM e t ≤ 0
  · rw [if_pos z, decide_eq_true z, xw_s]; rfl
  · rw [if_neg z, decide_eq_false z, xw_s]; rfl
theorem s1_P {np : Nat} {pl : Nat → XPl} (hi : i < np) (hn : np ≤ 5) (h1 : 1 ≤ j) (h9 : j ≤ 9) (h : ∀ x, x < np → eqP (pl x) (gP G x)) (hd : xdist e t = xdistM e t) (hh : hitB e t = decide (xdistM e t ≤ 0)) (hc : e.2.2.2.1.toNatClampNeg = j) : ∀ x, x < np → eqP (xw pl i (payP e wt t (pl i)) x) (gP (s1G G i j e wt t) x) := by
  intro x hx
  by_cases z : x = i
  · subst z
    rw [xw_s]
    obtain ⟨u1, u2, u3, u4, u5⟩ := h x hx
    refine ⟨?_, ?_, ?_, fun y hy => ?_, fun y hy => ?_⟩
    · show (bif hitB e t then (pl x).1 + (e.2.2.2.2 + xprize e) else (pl x).1) = s1G G x j e wt t (10 + x)
      rw [s1_co (by omega) h1 h9, hh, u1]
      rfl
    · show (pl x).2.1 + wt * xpts e t = s1G G x j e wt t (20 + x)
      rw [s1_sc (by omega) h1 h9, xpts_eq hd, u2]
      rfl
    · show (pl x).2.2.1 = decide (s1G G x j e wt t (15 + x) = 1)
      rw [s1_out (by omega) (by omega) (by omega) (by omega) (by omega), u3]
      rfl
    · show xw (pl x).2.2.2.1 e.2.2.2.1.toNatClampNeg ((pl x).2.2.2.1 e.2.2.2.1.toNatClampNeg + 1) y = gB (s1G G x j e wt t) (30 + 9 * x) y
      rw [hc]
      by_cases v : y = j
      · rw [v, xw_s, u4 j (by omega)]
        show gB G (30 + 9 * x) j + 1 = _
        unfold gB
        rw [if_neg (by omega), if_neg (by omega), show 30 + 9 * x + j - 1 = 30 + (9 * x + j - 1) by omega, s1_sz (by omega) h1 h9]
      · rw [xw_n v, u4 y hy]
        show gB G (30 + 9 * x) y = _
        unfold gB
        split
        · rfl
        · rw [s1_out (by omega) (by omega) (by omega) (by omega) (by omega)]
    · show (bif hitB e t then xw (pl x).2.2.2.2 e.2.2.2.1.toNatClampNeg ((pl x).2.2.2.2 e.2.2.2.1.toNatClampNeg + 1) else (pl x).2.2.2.2) y = gB (s1G G x j e wt t) (75 + 9 * x) y
      rw [hc]
      by_cases v : y = j
      · have e9 : (bif hitB e t then xw (pl x).2.2.2.2 j ((pl x).2.2.2.2 j + 1) else (pl x).2.2.2.2) y = bif hitB e t then (pl x).2.2.2.2 j + 1 else (pl x).2.2.2.2 j := by
          rw [v]
          cases hitB e t
          · rfl
          · exact xw_s
        rw [e9, u5 j (by omega), v]
        show (bif hitB e t then gB G (75 + 9 * x) j + 1 else gB G (75 + 9 * x) j) = _
        unfold gB
        rw [if_neg (by omega), if_neg (by omega), show 75 + 9 * x + j - 1 = 75 + (9 * x + j - 1) by omega, s1_ht (by omega) h1 h9, hh]
      · have e9 : (bif hitB e t then xw (pl x).2.2.2.2 j ((pl x).2.2.2.2 j + 1) else (pl x).2.2.2.2) y = (pl x).2.2.2.2 y := by
          cases hitB e t
          · rfl
          · exact xw_n v
        rw [e9, u5 y hy]
        show gB G (75 + 9 * x) y = _
        unfold gB
        split
        · rfl
        · rw [s1_out (by omega) (by omega) (by omega) (by omega) (by omega)]
  · rw [xw_n z]
    exact (h x hx).tr (gP_ext (s1_out (by omega) (by omega) (by omega) (by omega) (by omega)) (s1_out (by omega) (by omega) (by omega) (by omega) (by omega)) (s1_out (by omega) (by omega) (by omega) (by omega) (by omega)) (fun y hy => s1_out (by omega) (by omega) (by omega) (by omega) (by omega)) (fun y hy => s1_out (by omega) (by omega) (by omega) (by omega) (by omega))).symm
end S1
def okEst (np : Nat) (e : XEst) : Prop := (∃ i, i < np ∧ e.1 = nI i) ∧ (∃ l u : Nat, e.2.1 = nI l ∧ e.2.2.1 = nI u ∧ l ≤ u ∧ u ≤ 999) ∧ xconf e.2.2.2.1 ∧ ∃ s : Nat, 1 ≤ s ∧ s ≤ 20 ∧ e.2.2.2.2 = nI s
theorem okEst.okE {np : Nat} {e : XEst} (h : okEst np e) : okE np e := by
  obtain ⟨⟨i, hi, e1⟩, -, hc, -⟩ := h
  exact ⟨⟨i, by omega, e1⟩, hc⟩
theorem okEst.Q {np : Nat} (hn : np ≤ 5) {E : Nat → XEst} {m : Nat} (h : ∀ r, r < m → okEst np (E r)) : okQ E m := fun r hr => by
  obtain ⟨⟨i, hi, e1⟩, -, hc, -⟩ := h r hr
  exact ⟨⟨i, by omega, e1⟩, hc⟩
theorem payN_cong {E F : Nat → XEst} {wt t : Int32} {z : XZ} : ∀ {n : Nat}, (∀ r, r < n → E r = F r) → payN E wt t n z = payN F wt t n z
  | 0, _ => rfl
  | n + 1, h => by
    show pay1 (E n) wt t (payN E wt t n z) = pay1 (F n) wt t (payN F wt t n z)
    rw [payN_cong (fun r hr => h r (by omega)), h n (by omega)]
theorem stG_P {G : Nat → Int32} {np : Nat} {pl : Nat → XPl} {ho : Int32} {B : (Nat → Int32) × (Nat → Int32)} {wt : Int32} {k : Nat} (hk : k ≤ 999) (hn : np ≤ 5) (h : ∀ x, x < np → eqP (pl x) (gP G x)) (h3 : G 3 = ho) (hz : zrG G np) : ∀ n, (∀ r, r < n → okEst np (gE G 0 r)) → (∀ x, x < np → eqP ((payN (gE G 0) wt (nI k) n (pl, (ho, B))).1 x) (gP (stG G wt (nI k) n) x)) ∧ stG G wt (nI k) n 3 = (payN (gE G 0) wt (nI k) n (pl, (ho, B))).2.1 ∧ zrG (stG G wt (nI k) n) np := by
  intro n
  induction n with
  | zero => intro _; exact ⟨h, h3, hz⟩
  | succ n ih =>
    intro ok
    obtain ⟨i1, i2, i3⟩ := ih (fun r hr => ok r (by omega))
    obtain ⟨⟨i, hi, e1⟩, ⟨l, u, l1, u1, hlu, hu⟩, hc, -⟩ := ok n (Nat.lt_succ_self _)
    obtain ⟨j, j1, j9, e2⟩ := xconf_nI hc
    obtain ⟨d1, d2⟩ := xdist_eq l1 u1 hlu hu hk
    have c1 : (gE G 0 n).1.toNatClampNeg = i := by rw [e1]; exact nI_clamp (by omega)
    have c2 : (gE G 0 n).2.2.2.1.toNatClampNeg = j := by rw [e2]; exact nI_clamp (by omega)
    have es : stG G wt (nI k) (n + 1) = s1G (stG G wt (nI k) n) i j (gE G 0 n) wt (nI k) := by
      show s1G _ _ _ _ _ _ = _
      rw [c1, c2]
    have ep : payN (gE G 0) wt (nI k) (n + 1) (pl, (ho, B)) = pay1 (gE G 0 n) wt (nI k) (payN (gE G 0) wt (nI k) n (pl, (ho, B))) := rfl
    rw [es, ep]
    refine ⟨?_, ?_, fun x h1 h5 => ?_⟩
    · show ∀ x, x < np → eqP (xw _ (gE G 0 n).1.toNatClampNeg _ x) _
      rw [c1]
      exact s1_P hi hn j1 j9 i1 d1 d2 c2
    · show _ = bif hitB _ _ then _ else _
      rw [s1_ho, d2, i2]
    · obtain ⟨z1, z2, z3⟩ := i3 x h1 h5
      exact ⟨(s1_out (by omega) (by omega) (by omega) (by omega) (by omega)).trans z1, (s1_out (by omega) (by omega) (by omega) (by omega) (by omega)).trans z2, fun y hy => ⟨(s1_out (by omega) (by omega) (by omega) (by omega) (by omega)).trans (z3 y hy).1, (s1_out (by omega) (by omega) (by omega) (by omega) (by omega)).trans (z3 y hy).2⟩⟩
theorem drF_n {G : Nat → Int32} {n x : Nat} (h1 : x < 120 ∨ (120 + n ≤ x ∧ x < 126) ∨ (126 + n ≤ x ∧ x < 132) ∨ (132 + n ≤ x ∧ x < 138) ∨ 138 + 25 * n ≤ x) (hn : n ≤ 6) : drF G n x = G x := by
  unfold drF
  (repeat' split) <;> first | rfl | (exfalso; omega)
theorem drF_k {G : Nat → Int32} {n k i : Nat} (hn : n ≤ 5) (hi : i < n) (hk : k = 120 ∨ k = 126 ∨ k = 132) : drF G n (k + i) = G (k + (i + 1)) := by
  unfold drF
  (repeat' split) <;> first | rfl | (exfalso; omega)
theorem drF_x {G : Nat → Int32} {n i x : Nat} (hn : n ≤ 5) (hi : i < n) (hx : x < 25) : drF G n (138 + 25 * i + x) = G (138 + 25 * (i + 1) + x) := by
  unfold drF
  (repeat' split) <;> first | rfl | (exfalso; omega) | (congr 1; omega)
section RGS
variable {G : Nat → Int32} {mn : Nat → Nat} {np no : Nat} {nn : Int32} {sc : Nat} {ho : Int32} {tr : Nat → Int32} {pl : Nat → XPl} {q : Nat → XQu}
theorem RG.settle (h : RG G mn np no nn sc ho tr pl q) (h0 : 0 < no) {k : Nat} (hk : k ≤ 999) (ok : ∀ r, r < mn 0 → okEst np (gE G 0 r)) (B : (Nat → Int32) × (Nat → Int32)) : RG (gSet G no (mn 0) sc (nI k)) (fun i => if i < no - 1 then mn (i + 1) else mn i) np (no - 1) nn (sc + 1) (payN (q 0).2.2.2 (q 0).2.1 (nI k) (q 0).2.2.1 (pl, (ho, B))).2.1 (fun j => if j = 0 then nI k else tr (j - 1)) (payN (q 0).2.2.2 (q 0).2.1 (nI k) (q 0).2.2.1 (pl, (ho, B))).1 (rot q 0 (no - 1)) := by
  obtain ⟨⟨⟨g0, g5⟩, ⟨g1, g6⟩, gm⟩, ⟨r1, r2, r3⟩, r4, r5, r6, r7⟩ := h
  have e0 := r6 0 h0
  have ep : payN (q 0).2.2.2 (q 0).2.1 (nI k) (q 0).2.2.1 (pl, (ho, B)) = payN (gE G 0) (G 126) (nI k) (mn 0) (pl, (ho, B)) := by
    rw [e0.2.1, e0.2.2.1]
    exact payN_cong e0.2.2.2
  rw [ep]
  have oq := okEst.Q g5 ok
  obtain ⟨p1, p2, p3⟩ := stG_P (B := B) (wt := G 126) hk g5 r5 r2 r7 (mn 0) ok
  have so : ∀ x, sOut x → stG G (G 126) (nI k) (mn 0) x = G x := fun x hx => stG_out hx oq
  have e : ∀ x, x ≠ 1 → x ≠ 4 → x ≠ 5 + sc % 5 → gSet G no (mn 0) sc (nI k) x = drF (stG G (G 126) (nI k) (mn 0)) (no - 1) x := fun x h1 h2 h3 => by
    unfold gSet
    rw [xw_n h2, xw_n h3, xw_n h1]
  have hm5 := Nat.mod_lt sc (show 0 < 5 by omega)
  have e1 : gSet G no (mn 0) sc (nI k) 1 = nI (no - 1) := by
    unfold gSet
    rw [xw_n (by omega), xw_n (by omega), xw_s]
  have e4 : gSet G no (mn 0) sc (nI k) 4 = nI (sc + 1) := by
    unfold gSet
    rw [xw_s]
  have e5 : gSet G no (mn 0) sc (nI k) (5 + sc % 5) = nI k := by
    unfold gSet
    rw [xw_n (by omega), xw_s]
  have el : ∀ x, x ≠ 1 → x ≠ 4 → x ≠ 5 + sc % 5 → x < 120 → gSet G no (mn 0) sc (nI k) x = stG G (G 126) (nI k) (mn 0) x := fun x h1 h2 h3 h4 => (e x h1 h2 h3).trans (drF_n (by omega) (by omega))
  refine ⟨⟨⟨(el _ (by omega) (by omega) (by omega) (by omega)).trans ((so _ (by unfold sOut; omega)).trans g0), g5⟩, ⟨e1, by omega⟩, fun i hi => ?_⟩, ⟨(el _ (by omega) (by omega) (by omega) (by omega)).trans ((so _ (by unfold sOut; omega)).trans r1), (el _ (by omega) (by omega) (by omega) (by omega)).trans p2, e4⟩, fun j hj => ?_, fun i hi => (p1 i hi).tr (gP_all (by omega) (fun x h1 h2 => el x (by omega) (by omega) (by omega) h2)).symm, fun i hi => ?_, zrG_ext p3 (Nat.le_refl _) (fun x hx => el x (by omega) (by omega) (by omega) (by omega))⟩
  · by_cases z : i < no - 1
    · show _ = nI (if i < no - 1 then mn (i + 1) else mn i) ∧ (if i < no - 1 then mn (i + 1) else mn i) ≤ 5
      rw [if_pos z]
      exact ⟨(e _ (by omega) (by omega) (by omega)).trans ((drF_k (by omega) z (by omega)).trans ((so _ (by unfold sOut; omega)).trans (gm (i + 1) (by omega)).1)), (gm (i + 1) (by omega)).2⟩
    · show _ = nI (if i < no - 1 then mn (i + 1) else mn i) ∧ (if i < no - 1 then mn (i + 1) else mn i) ≤ 5
      rw [if_neg z]
      exact ⟨(e _ (by omega) (by omega) (by omega)).trans ((drF_n (by omega) (by omega)).trans ((so _ (by unfold sOut; omega)).trans (gm i hi).1)), (gm i hi).2⟩
  · show (if j = 0 then nI k else tr (j - 1)) = gSet G no (mn 0) sc (nI k) (5 + (sc + 1 - 1 - j) % 5)
    by_cases z : j = 0
    · rw [if_pos z, z, show sc + 1 - 1 - 0 = sc by omega, e5]
    · have e9 : 5 + (sc + 1 - 1 - j) % 5 ≠ 5 + sc % 5 := by omega
      have e8 := Nat.mod_lt (sc + 1 - 1 - j) (show 0 < 5 by omega)
      rw [if_neg z, el _ (by omega) (by omega) e9 (by omega), so _ (by unfold sOut; omega), r4 (j - 1) (by omega)]
      show G (5 + (sc - 1 - (j - 1)) % 5) = _
      rw [show sc - 1 - (j - 1) = sc + 1 - 1 - j by omega]
  · rw [rot_I, show rotI 0 (no - 1) i = i + 1 from by unfold rotI; (repeat' split) <;> omega]
    exact (r6 (i + 1) (by omega)).tr (gQ_ext (mk := fun i => if i < no - 1 then mn (i + 1) else mn i) ((e _ (by omega) (by omega) (by omega)).trans ((drF_k (by omega) hi (by omega)).trans (so _ (by unfold sOut; omega)))) ((e _ (by omega) (by omega) (by omega)).trans ((drF_k (by omega) hi (by omega)).trans (so _ (by unfold sOut; omega)))) (if_pos hi) (gm (i + 1) (by omega)).2 (fun x hx => (e _ (by omega) (by omega) (by omega)).trans ((drF_x (by omega) hi hx).trans (so _ (by unfold sOut; omega))))).symm
/-- leaving: what is given back, one question after another -/
theorem wdN_c {i : Nat} (hi : i < 5) : ∀ n, n ≤ 6 → wdN G i mn n (10 + i) = xacc (G (10 + i)) (fun x => rfnd (nI i) (gQ G mn x)) n := by
  intro n
  induction n with
  | zero => intro _; rfl
  | succ n ih =>
    intro hn
    have i1 := ih (by omega)
    show wd1 (wdN G i mn n) i n (mn n) (10 + i) = xacc _ _ n + rfnd (nI i) (gQ G mn n)
    unfold wd1
    rw [wdN_E hi, show rfnd (nI i) (gQ G mn n) = if rnk (gE G n) (mn n) (nI i) < mn n then (gE G n (rnk (gE G n) (mn n) (nI i))).2.2.2.2 else 0 from rfl]
    by_cases z : rnk (gE G n) (mn n) (nI i) < mn n
    · rw [if_pos z, if_pos z, ← i1]
      unfold rmG rmS
      rw [xw_n (by omega), if_neg (by omega), xw_s]
    · rw [if_neg z, if_neg z, i1]
      exact (Int32.add_zero _).symm
theorem rmG_E {H : Nat → Int32} {x r m k : Nat} (hk : k < m - 1) (hm : m ≤ 5) (hx : x < 6) (v : Nat → Int32) (hv : ∀ y, 138 + 25 * x ≤ y → y < 138 + 25 * x + 25 → H y = v y) : gE (rmG H x r m) x k = if r ≤ k then gE v x (k + 1) else gE v x k := by
  unfold gE rmG rmS
  split
  · rw [xw_n (by omega), xw_n (by omega), xw_n (by omega), xw_n (by omega), xw_n (by omega), if_pos (by omega), if_pos (by omega), if_pos (by omega), if_pos (by omega), if_pos (by omega), hv _ (by omega) (by omega), hv _ (by omega) (by omega), hv _ (by omega) (by omega), hv _ (by omega) (by omega), hv _ (by omega) (by omega)]
    refine Prod.ext (congrArg v (by omega)) (Prod.ext (congrArg v (by omega)) (Prod.ext (congrArg v (by omega)) (Prod.ext (congrArg v (by omega)) (congrArg v (by omega)))))
  · rw [xw_n (by omega), xw_n (by omega), xw_n (by omega), xw_n (by omega), xw_n (by omega), if_neg (by omega), if_neg (by omega), if_neg (by omega), if_neg (by omega), if_neg (by omega), hv _ (by omega) (by omega), hv _ (by omega) (by omega), hv _ (by omega) (by omega), hv _ (by omega) (by omega), hv _ (by omega) (by omega)]
theorem wdN_in {i x y : Nat} (hi : i < 5) (h1 : 138 + 25 * x ≤ y) (h2 : y < 138 + 25 * x + 25) : ∀ n, x < n → n ≤ 6 → wdN G i mn n y = wdN G i mn (x + 1) y := by
  intro n
  induction n with
  | zero => intro h; exact absurd h (Nat.not_lt_zero _)
  | succ n ih =>
    intro h h6
    by_cases z : x = n
    · rw [z]
    · rw [← ih (by omega) (by omega)]
      show wd1 _ _ _ _ _ = _
      exact wd1_out (by omega) (by omega) (by omega)
theorem wdN_q {i x : Nat} (hi : i < 5) (h6 : x < 6) (hm : mn x ≤ 5) {n : Nat} (hx : x < n) (hn6 : n ≤ 6) : ∀ k, k < (remQ (nI i) (gQ G mn x)).2.2.1 → (remQ (nI i) (gQ G mn x)).2.2.2 k = gE (wdN G i mn n) x k := by
  intro k
  have e1 : gE (wdN G i mn n) x k = gE (wd1 (wdN G i mn x) i x (mn x)) x k ∨ 5 ≤ k := by
    rcases Nat.lt_or_ge k 5 with z | z
    · exact Or.inl (gE_ext (fun y hy => wdN_in (x := x) hi (by omega) (by omega) n hx hn6))
    · exact Or.inr z
  have e2 : remQ (nI i) (gQ G mn x) = if rnk (gE G x) (mn x) (nI i) < mn x then (G (120 + x), (G (126 + x), (mn x - 1, rot (gE G x) (rnk (gE G x) (mn x) (nI i)) (mn x - 1)))) else gQ G mn x := rfl
  rw [e2]
  by_cases z : rnk (gE G x) (mn x) (nI i) < mn x
  · rw [if_pos z]
    intro hk
    have hk : k < mn x - 1 := hk
    rcases e1 with e1 | e1
    · rw [e1]
      unfold wd1
      rw [wdN_E hi, if_pos z, rmG_E (v := G) hk hm h6 (fun y h1 h2 => by rw [xw_n (by omega)]; exact wdN_out (by omega) (by omega))]
      show rot _ _ _ k = _
      unfold rot
      by_cases y : k < rnk (gE G x) (mn x) (nI i)
      · rw [if_pos y, if_neg (by omega)]
      · rw [if_neg y, if_pos hk, if_pos (by omega)]
    · omega
  · rw [if_neg z]
    intro hk
    have hk : k < mn x := hk
    rcases e1 with e1 | e1
    · rw [e1]
      unfold wd1
      rw [wdN_E hi, if_neg z, wdN_E hi]
      rfl
    · omega
theorem RG.leave (h : RG G mn np no nn sc ho tr pl q) {i : Nat} (hi : i < np) : RG (xw (wdN G i mn no) (15 + i) 1) (mnW G i mn no) np no nn sc ho tr (xw pl i (xacc (pl i).1 (fun x => rfnd (nI i) (q x)) no, ((pl i).2.1, (true, (pl i).2.2.2)))) (fun y => if y < no then remQ (nI i) (q y) else q y) := by
  obtain ⟨⟨⟨g0, g5⟩, ⟨g1, g6⟩, gm⟩, ⟨r1, r2, r3⟩, r4, r5, r6, r7⟩ := h
  have hW := wdN_W (G := G) (mn := mn) (np := np) (no := no) (i := i) ⟨⟨g0, g5⟩, ⟨g1, g6⟩, gm⟩ (by omega) (n := no) g6
  obtain ⟨w0, w1, w2⟩ := hW
  have e : ∀ x, x ≠ 15 + i → x ≠ 10 + i → x < 132 → xw (wdN G i mn no) (15 + i) 1 x = G x := fun x h1 h2 h3 => (xw_n h1).trans (wdN_out h2 (by omega))
  refine ⟨⟨⟨(xw_n (by omega)).trans w0.1, g5⟩, ⟨(xw_n (by omega)).trans w1.1, g6⟩, fun x hx => ⟨(xw_n (by omega)).trans (w2 x hx).1, (w2 x hx).2⟩⟩, ⟨(e _ (by omega) (by omega) (by omega)).trans r1, (e _ (by omega) (by omega) (by omega)).trans r2, (e _ (by omega) (by omega) (by omega)).trans r3⟩, fun j hj => (r4 j hj).trans (gT_ext (fun x h1 h2 => e x (by omega) (by omega) (by omega)) sc j).symm, fun x hx => ?_, fun x hx => ?_, fun x h1 h5 => ?_⟩
  · by_cases z : x = i
    · subst z
      rw [xw_s]
      obtain ⟨u1, u2, u3, u4, u5⟩ := r5 x hx
      refine ⟨?_, u2.trans (e _ (by omega) (by omega) (by omega)).symm, ?_, u4.tr (fun y hy => (gB_ext (fun z hz => e _ (by omega) (by omega) (by omega)) y hy).symm), u5.tr (fun y hy => (gB_ext (fun z hz => e _ (by omega) (by omega) (by omega)) y hy).symm)⟩
      · show xacc (pl x).1 (fun y => rfnd (nI x) (q y)) no = xw (wdN G x mn no) (15 + x) 1 (10 + x)
        rw [xw_n (by omega), wdN_c (by omega) no g6, u1]
        have hc : ∀ n, n ≤ no → xacc (gP G x).1 (fun y => rfnd (nI x) (q y)) n = xacc (G (10 + x)) (fun y => rfnd (nI x) (gQ G mn y)) n := by
          intro n
          induction n with
          | zero => intro _; rfl
          | succ n ih =>
            intro hn
            show xacc _ _ n + rfnd (nI x) (q n) = xacc _ _ n + rfnd (nI x) (gQ G mn n)
            rw [ih (by omega), rfnd_cong (r6 n (by omega))]
        exact hc no (Nat.le_refl _)
      · show true = decide (xw (wdN G x mn no) (15 + x) 1 (15 + x) = 1)
        rw [xw_s]
        rfl
    · rw [xw_n z]
      exact (r5 x hx).tr (gP_ext (e _ (by omega) (by omega) (by omega)) (e _ (by omega) (by omega) (by omega)) (e _ (by omega) (by omega) (by omega)) (fun y hy => e _ (by omega) (by omega) (by omega)) (fun y hy => e _ (by omega) (by omega) (by omega))).symm
  · show eqQ (if x < no then remQ (nI i) (q x) else q x) _
    rw [if_pos hx]
    refine (remQ_cong (r6 x hx) (nI i)).tr ⟨?_, ?_, ?_, fun k hk => ?_⟩
    · refine Eq.trans ?_ (e _ (by omega) (by omega) (by omega)).symm
      unfold remQ
      split <;> rfl
    · refine Eq.trans ?_ (e _ (by omega) (by omega) (by omega)).symm
      unfold remQ
      split <;> rfl
    · show (remQ (nI i) (gQ G mn x)).2.2.1 = mnW G i mn no x
      unfold mnW hasM
      rw [if_pos hx]
      show (if rnk (gE G x) (mn x) (nI i) < mn x then _ else _ : XQu).2.2.1 = _
      by_cases z : rnk (gE G x) (mn x) (nI i) < mn x
      · rw [if_pos z, decide_eq_true z]; rfl
      · rw [if_neg z, decide_eq_false z]; rfl
    · have hk2 : k < mnW G i mn no x := hk
      have e3 : (remQ (nI i) (gQ G mn x)).2.2.1 = mnW G i mn no x := by
        unfold mnW hasM
        rw [if_pos hx]
        show (if rnk (gE G x) (mn x) (nI i) < mn x then _ else _ : XQu).2.2.1 = _
        by_cases z : rnk (gE G x) (mn x) (nI i) < mn x
        · rw [if_pos z, decide_eq_true z]; rfl
        · rw [if_neg z, decide_eq_false z]; rfl
      rw [wdN_q (by omega) (by omega) (gm x (by omega)).2 hx g6 k (by rw [e3]; exact hk2)]
      have hb : mnW G i mn no x ≤ 5 := (w2 x (by omega)).2
      exact gE_ext (fun y hy => (xw_n (by omega)).symm)
  · obtain ⟨z1, z2, z3⟩ := r7 x h1 h5
    exact ⟨(e _ (by omega) (by omega) (by omega)).trans z1, (e _ (by omega) (by omega) (by omega)).trans z2, fun j hj => ⟨(e _ (by omega) (by omega) (by omega)).trans (z3 j hj).1, (e _ (by omega) (by omega) (by omega)).trans (z3 j hj).2⟩⟩
end RGS
