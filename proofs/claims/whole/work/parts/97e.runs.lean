/-! class and reference run the same commands -/
theorem dgc_tn {Bu : Nat → Int32} {n p : Nat} (h : p ≤ n) : ∀ m, p + dgc Bu n p m ≤ n
  | 0 => h
  | m + 1 => by
    have ih := dgc_tn (Bu := Bu) h m
    show p + (if dgc Bu n p m = m ∧ p + m < n ∧ dgt (Bu (p + m)) then m + 1 else dgc Bu n p m) ≤ n
    split
    · rename_i z; omega
    · exact ih
theorem hrM_tn {Bu : Nat → Int32} {tn p : Nat} {c : Int32} (h : hrM Bu tn p = c) (hc : c ≠ -1) : p < tn := ((hrM_ch hc).mp h).1
theorem ndM_tn {Bu : Nat → Int32} {tn : Nat} {c : Int32} {s : Nat × Bool} (hc : c ≠ -1) (h : s.1 ≤ tn) : (ndM Bu tn c s).1 ≤ tn := by
  unfold ndM
  cases s.2
  · rw [cond_false]
    split
    · rename_i z
      exact hrM_tn z hc
    · exact h
  · exact h
theorem dgM_tn {Bu : Nat → Int32} {tn mx : Nat} {s : Nat × Bool} (h : s.1 ≤ tn) : (dgM Bu tn mx s).2.1 ≤ tn := by
  unfold dgM
  split
  · exact dgc_tn h mx
  · exact h
theorem daM_tn {Bu : Nat → Int32} {tn mx : Nat} {c : Int32} {s : Nat × Bool} (hc : c ≠ -1) (h : s.1 ≤ tn) : (daM Bu tn c mx s).2.1 ≤ tn := dgM_tn (ndM_tn hc h)
theorem pcM_tn {Bu : Nat → Int32} {tn pn b : Nat} {Pa : Nat → Int32} (h : pn ≤ tn) : (pcM Bu tn pn b Pa).2.1 ≤ tn := by
  by_cases e1 : hrM Bu tn pn = 112
  · rw [pcM_p e1]
    exact (ndM_tn (by decide) (ndM_tn (by decide) (ndM_tn (by decide) (ndM_tn (by decide) (ndM_tn (by decide) (show ((pn + 1, false) : Nat × Bool).1 ≤ tn from hrM_tn e1 (by decide)))))))
  by_cases e2 : hrM Bu tn pn = 111
  · by_cases e3 : hrM Bu tn (pn + 1) = 117
    · rw [pcM_u e1 e2 e3]
      exact (daM_tn (by decide) (ndM_tn (by decide) (ndM_tn (by decide) (show ((pn + 1, false) : Nat × Bool).1 ≤ tn from hrM_tn e2 (by decide)))))
    · rw [pcM_o e1 e2 e3]
      exact (daM_tn (by decide) (ndM_tn (by decide) (ndM_tn (by decide) (ndM_tn (by decide) (show ((pn + 1, false) : Nat × Bool).1 ≤ tn from hrM_tn e2 (by decide))))))
  by_cases e4 : hrM Bu tn pn = 98
  · rw [pcM_b e1 e2 e4]
    exact (daM_tn (by decide) (daM_tn (by decide) (daM_tn (by decide) (daM_tn (by decide) (daM_tn (by decide) (daM_tn (by decide) (ndM_tn (by decide) (ndM_tn (by decide) (show ((pn + 1, false) : Nat × Bool).1 ≤ tn from hrM_tn e4 (by decide))))))))))
  by_cases e5 : hrM Bu tn pn = 115
  · rw [pcM_s e1 e2 e4 e5]
    exact (daM_tn (by decide) (ndM_tn (by decide) (ndM_tn (by decide) (ndM_tn (by decide) (ndM_tn (by decide) (ndM_tn (by decide) (show ((pn + 1, false) : Nat × Bool).1 ≤ tn from hrM_tn e5 (by decide))))))))
  by_cases e6 : hrM Bu tn pn = 108
  · rw [pcM_l e1 e2 e4 e5 e6]
    exact (ndM_tn (by decide) (ndM_tn (by decide) (ndM_tn (by decide) (ndM_tn (by decide) (show ((pn + 1, false) : Nat × Bool).1 ≤ tn from hrM_tn e6 (by decide))))))
  rw [pcM_d e1 e2 e4 e5 e6]
  exact h
theorem pcM_low {Bu : Nat → Int32} {tn pn b : Nat} {Pa : Nat → Int32} {x : Nat} (h : x < b) : (pcM Bu tn pn b Pa).1 x = Pa x := by
  by_cases e1 : hrM Bu tn pn = 112
  · rw [pcM_p e1]
    show ((xw Pa b (hrM Bu tn pn))) x = Pa x
    rw [xw_n (by omega)]
  by_cases e2 : hrM Bu tn pn = 111
  · by_cases e3 : hrM Bu tn (pn + 1) = 117
    · rw [pcM_u e1 e2 e3]
      show (xw (xw (xw Pa b (hrM Bu tn pn)) b 117) (b + 1) _) x = Pa x
      rw [xw_n (by omega), xw_n (by omega), xw_n (by omega)]
    · rw [pcM_o e1 e2 e3]
      show (xw (xw Pa b (hrM Bu tn pn)) (b + 1) _) x = Pa x
      rw [xw_n (by omega), xw_n (by omega)]
  by_cases e4 : hrM Bu tn pn = 98
  · rw [pcM_b e1 e2 e4]
    show (xw (xw (xw (xw (xw (xw (xw Pa b (hrM Bu tn pn)) (b + 1) _) (b + 2) _) (b + 3) _) (b + 4) _) (b + 5) _) (b + 6) _) x = Pa x
    rw [xw_n (by omega), xw_n (by omega), xw_n (by omega), xw_n (by omega), xw_n (by omega), xw_n (by omega), xw_n (by omega)]
  by_cases e5 : hrM Bu tn pn = 115
  · rw [pcM_s e1 e2 e4 e5]
    show (xw (xw Pa b (hrM Bu tn pn)) (b + 1) _) x = Pa x
    rw [xw_n (by omega), xw_n (by omega)]
  by_cases e6 : hrM Bu tn pn = 108
  · rw [pcM_l e1 e2 e4 e5 e6]
    show ((xw Pa b (hrM Bu tn pn))) x = Pa x
    rw [xw_n (by omega)]
  rw [pcM_d e1 e2 e4 e5 e6]
  show ((xw Pa b (hrM Bu tn pn))) x = Pa x
  rw [xw_n (by omega)]
theorem cnF_6 (j : Nat) : cnF j ≤ 6 := match j with
  | 0 => by decide
  | 1 => by decide
  | 2 => by decide
  | 3 => by decide
  | 4 => by decide
  | 5 => by decide
  | j + 6 => Nat.zero_le _
theorem fltC_x0 {np no : Nat} {pl : Nat → XPl} {q : Nat → XQu} {x y : Nat → Int32}  : fltC np no pl q x 0 = fltC np no pl q y 0 := by
  show joinF np = joinF np
  rfl
theorem gC_x0 {G : Nat → Int32} {np no sc : Nat} {mn : Nat → Nat} {x y : Nat → Int32}  : gC G np no sc mn x 0 = gC G np no sc mn y 0 := by
  show xw (xw G (10 + np) 100) 0 (nI (np + 1)) = xw (xw G (10 + np) 100) 0 (nI (np + 1))
  rfl
theorem fltC_x1 {np no : Nat} {pl : Nat → XPl} {q : Nat → XQu} {x y : Nat → Int32} (h0 : x 0 = y 0) : fltC np no pl q x 1 = fltC np no pl q y 1 := by
  show askF no (x 0) = askF no (y 0)
  rw [h0]
theorem gC_x1 {G : Nat → Int32} {np no sc : Nat} {mn : Nat → Nat} {x y : Nat → Int32} (h0 : x 0 = y 0) : gC G np no sc mn x 1 = gC G np no sc mn y 1 := by
  show gAsk G no (x 0) = gAsk G no (y 0)
  rw [h0]
theorem fltC_x2 {np no : Nat} {pl : Nat → XPl} {q : Nat → XQu} {x y : Nat → Int32} (h0 : x 0 = y 0) (h1 : x 1 = y 1) (h2 : x 2 = y 2) (h3 : x 3 = y 3) (h4 : x 4 = y 4) (h5 : x 5 = y 5) : fltC np no pl q x 2 = fltC np no pl q y 2 := by
  show betF np no pl q (x 0) (x 1) (x 2) (x 3) (x 4) (x 5) = betF np no pl q (y 0) (y 1) (y 2) (y 3) (y 4) (y 5)
  rw [h0, h1, h2, h3, h4, h5]
theorem gC_x2 {G : Nat → Int32} {np no sc : Nat} {mn : Nat → Nat} {x y : Nat → Int32} (h0 : x 0 = y 0) (h1 : x 1 = y 1) (h2 : x 2 = y 2) (h3 : x 3 = y 3) (h4 : x 4 = y 4) (h5 : x 5 = y 5) : gC G np no sc mn x 2 = gC G np no sc mn y 2 := by
  show gBet G (x 0).toNatClampNeg (pla (gQ G mn) no (x 1)) (mn (pla (gQ G mn) no (x 1))) (x 2) (x 3) (x 4) (x 5) = gBet G (y 0).toNatClampNeg (pla (gQ G mn) no (y 1)) (mn (pla (gQ G mn) no (y 1))) (y 2) (y 3) (y 4) (y 5)
  rw [h0, h1, h2, h3, h4, h5]
theorem fltC_x3 {np no : Nat} {pl : Nat → XPl} {q : Nat → XQu} {x y : Nat → Int32} (h0 : x 0 = y 0) : fltC np no pl q x 3 = fltC np no pl q y 3 := by
  show settF no (x 0) = settF no (y 0)
  rw [h0]
theorem gC_x3 {G : Nat → Int32} {np no sc : Nat} {mn : Nat → Nat} {x y : Nat → Int32} (h0 : x 0 = y 0) : gC G np no sc mn x 3 = gC G np no sc mn y 3 := by
  show gSet G no (mn 0) sc (x 0) = gSet G no (mn 0) sc (y 0)
  rw [h0]
theorem fltC_x4 {np no : Nat} {pl : Nat → XPl} {q : Nat → XQu} {x y : Nat → Int32}  : fltC np no pl q x 4 = fltC np no pl q y 4 := by
  show postF no = postF no
  rfl
theorem gC_x4 {G : Nat → Int32} {np no sc : Nat} {mn : Nat → Nat} {x y : Nat → Int32}  : gC G np no sc mn x 4 = gC G np no sc mn y 4 := by
  show gPst G no = gPst G no
  rfl
theorem fltC_x5 {np no : Nat} {pl : Nat → XPl} {q : Nat → XQu} {x y : Nat → Int32} (h0 : x 0 = y 0) : fltC np no pl q x 5 = fltC np no pl q y 5 := by
  show leavF np pl (x 0) = leavF np pl (y 0)
  rw [h0]
theorem gC_x5 {G : Nat → Int32} {np no sc : Nat} {mn : Nat → Nat} {x y : Nat → Int32} (h0 : x 0 = y 0) : gC G np no sc mn x 5 = gC G np no sc mn y 5 := by
  show xw (wdN G (x 0).toNatClampNeg mn no) (15 + (x 0).toNatClampNeg) 1 = xw (wdN G (y 0).toNatClampNeg mn no) (15 + (y 0).toNatClampNeg) 1
  rw [h0]
theorem cnF_v : cnF 0 = 0 ∧ cnF 1 = 1 ∧ cnF 2 = 6 ∧ cnF 3 = 1 ∧ cnF 4 = 0 ∧ cnF 5 = 1 := ⟨rfl, rfl, rfl, rfl, rfl, rfl⟩
theorem fltC_x {np no : Nat} {pl : Nat → XPl} {q : Nat → XQu} {x y : Nat → Int32} {j : Nat} (hj : j < 6) (h : ∀ t, t < cnF j → x t = y t) : fltC np no pl q x j = fltC np no pl q y j := by
  obtain ⟨c0, c1, c2, c3, c4, c5⟩ := cnF_v
  rcases (show j = 0 ∨ j = 1 ∨ j = 2 ∨ j = 3 ∨ j = 4 ∨ j = 5 by omega) with e | e | e | e | e | e
  · subst e
    exact fltC_x0
  · subst e
    exact fltC_x1 (h 0 (by omega))
  · subst e
    exact fltC_x2 (h 0 (by omega)) (h 1 (by omega)) (h 2 (by omega)) (h 3 (by omega)) (h 4 (by omega)) (h 5 (by omega))
  · subst e
    exact fltC_x3 (h 0 (by omega))
  · subst e
    exact fltC_x4
  · subst e
    exact fltC_x5 (h 0 (by omega))
theorem gC_x {G : Nat → Int32} {np no sc : Nat} {mn : Nat → Nat} {x y : Nat → Int32} {j : Nat} (hj : j < 6) (h : ∀ t, t < cnF j → x t = y t) : gC G np no sc mn x j = gC G np no sc mn y j := by
  obtain ⟨c0, c1, c2, c3, c4, c5⟩ := cnF_v
  rcases (show j = 0 ∨ j = 1 ∨ j = 2 ∨ j = 3 ∨ j = 4 ∨ j = 5 by omega) with e | e | e | e | e | e
  · subst e
    exact gC_x0
  · subst e
    exact gC_x1 (h 0 (by omega))
  · subst e
    exact gC_x2 (h 0 (by omega)) (h 1 (by omega)) (h 2 (by omega)) (h 3 (by omega)) (h 4 (by omega)) (h 5 (by omega))
  · subst e
    exact gC_x3 (h 0 (by omega))
  · subst e
    exact gC_x4
  · subst e
    exact gC_x5 (h 0 (by omega))
def bad (tn : Nat) (Z : Nat × ((Nat → Int32) × (Nat × Bool))) : Prop := Z.2.2.2 = true ∨ Z.2.2.1 < tn
/-- one command, both ways -/
theorem ex_1 {Bu : Nat → Int32} {tn p c cc v : Nat} {Pa Pz nu G : Nat → Int32} (hw : (pcM Bu tn p (7 * c) Pa).2.2 = false) (hz : ∀ x, x < 7 * (c + 1) → Pz x = (pcM Bu tn p (7 * c) Pa).1 x) : ∃ j, j < 6 ∧ (rdA Bu tn p 6 0 p cc nu).1 = some j ∧ Pz (7 * c) = ltr j ∧ flG G (nmC (rdA Bu tn p 6 0 p cc nu).2.2.1 (rdA Bu tn p 6 0 p cc nu).2.2.2) j = flG G (xR Pz c) (jR Pz c) ∧ gcG G (nmC (rdA Bu tn p 6 0 p cc nu).2.2.1 (rdA Bu tn p 6 0 p cc nu).2.2.2) j = gcG G (xR Pz c) (jR Pz c) := by
  obtain ⟨r1, r2, r3⟩ := pc_rd (Bu := Bu) (tn := tn) (pn := p) (b := 7 * c) (Pa := Pa) (nu := nu) (c := cc)
  cases hA : (rdA Bu tn p 6 0 p cc nu).1 with
  | none => exact absurd (r2 hA) (by rw [hw]; decide)
  | some j =>
    obtain ⟨-, hj, hl, hx⟩ := r3 j hA
    have e0 : Pz (7 * c) = ltr j := (hz _ (by omega)).trans hl
    have ej : jR Pz c = j := by
      unfold jR
      rw [e0]
      exact lj_ltr hj
    have ex : ∀ t, t < cnF j → nmC (rdA Bu tn p 6 0 p cc nu).2.2.1 (rdA Bu tn p 6 0 p cc nu).2.2.2 t = xR Pz c t := fun t ht => by
      have := cnF_6 j
      unfold xR
      rw [hz _ (by omega)]
      exact (hx t ht).symm
    refine ⟨j, hj, rfl, e0, ?_, ?_⟩
    · rw [ej]; exact fltC_x hj ex
    · rw [ej]; exact gC_x hj ex
theorem run_eq {Bu : Nat → Int32} {tn : Nat} (ht : tn ≤ 60) : ∀ (m c p : Nat) (Pa : Nat → Int32) (m2 cc : Nat) (nu : Nat → Int32), p ≤ tn → tn < p + m → 2 * c ≤ p → m2 + c = 60 →
    (ctC Bu tn m2 (c + 1) p cc nu).2.1 = (prM Bu tn m c p Pa).2.2.1
    ∧ (∀ v, (ctC Bu tn m2 (c + 1) p cc nu).1 = some v → v = (prM Bu tn m c p Pa).1 ∧ ¬ bad tn (prM Bu tn m c p Pa))
    ∧ ((ctC Bu tn m2 (c + 1) p cc nu).1 = none → bad tn (prM Bu tn m c p Pa))
    ∧ (∀ x, x < 7 * c → (prM Bu tn m c p Pa).2.1 x = Pa x)
    ∧ (c < (prM Bu tn m c p Pa).1 ∧ (prM Bu tn m c p Pa).1 ≤ 31 ∧ (¬ bad tn (prM Bu tn m c p Pa) → 2 * (prM Bu tn m c p Pa).1 ≤ (prM Bu tn m c p Pa).2.2.1 + 1 ∧ (prM Bu tn m c p Pa).2.2.1 ≤ tn))
    ∧ (¬ bad tn (prM Bu tn m c p Pa) → ∀ i, c ≤ i → i < (prM Bu tn m c p Pa).1 → ∃ j, j < 6 ∧ (prM Bu tn m c p Pa).2.1 (7 * i) = ltr j)
    ∧ (¬ bad tn (prM Bu tn m c p Pa) → ∀ (G : Nat → Int32) (c2 : Nat) (nu2 : Nat → Int32) (k : Nat), c + k = (prM Bu tn m c p Pa).1 → (exC Bu tn k c p c2 nu2 G).1 = (exR (prM Bu tn m c p Pa).2.1 k c G).1 ∧ (exC Bu tn k c p c2 nu2 G).2.1 = (exR (prM Bu tn m c p Pa).2.1 k c G).2) := by
  intro m
  induction m with
  | zero => intro c p Pa m2 cc nu h1 h2; omega
  | succ m ih =>
    intro c p Pa m2 cc nu h1 h2 h3 h4
    obtain ⟨r1, r2, r3⟩ := pc_rd (Bu := Bu) (tn := tn) (pn := p) (b := 7 * c) (Pa := Pa) (nu := nu) (c := cc)
    have hpt := pcM_tn (Bu := Bu) (b := 7 * c) (Pa := Pa) h1
    obtain ⟨m3, rfl⟩ : ∃ m3, m2 = m3 + 1 := ⟨m2 - 1, by omega⟩
    cases hA : (rdA Bu tn p 6 0 p cc nu).1 with
    | none =>
      have hw := r2 hA
      have eZ : prM Bu tn (m + 1) c p Pa = (c + 1, pcM Bu tn p (7 * c) Pa) := by
        rw [prM_s]
        exact if_neg (fun z => absurd z.1 (by rw [hw]; decide))
      have eY : ctC Bu tn (m3 + 1) (c + 1) p cc nu = (none, (rdA Bu tn p 6 0 p cc nu).2) := by
        rw [ctC_s, hA]
      rw [eZ, eY]
      have hb : bad tn (c + 1, pcM Bu tn p (7 * c) Pa) := Or.inl hw
      exact ⟨r1.symm, fun v h => (nomatch h), fun _ => hb, fun x hx => pcM_low hx, ⟨by show c < c + 1; omega, by show c + 1 ≤ 31; omega, fun z => absurd hb z⟩, fun z => absurd hb z, fun z => absurd hb z⟩
    | some j =>
      obtain ⟨hw, hj, hl, hx⟩ := r3 j hA
      have hge := pcM_ge hw
      by_cases hs : hrM Bu tn (pcM Bu tn p (7 * c) Pa).2.1 = 59
      · have hq := (hrM_ch (by decide)).mp hs
        have eZ : prM Bu tn (m + 1) c p Pa = prM Bu tn m (c + 1) ((pcM Bu tn p (7 * c) Pa).2.1 + 1) (pcM Bu tn p (7 * c) Pa).1 := by
          rw [prM_s]
          exact if_pos ⟨hw, hs⟩
        have eY : ctC Bu tn (m3 + 1) (c + 1) p cc nu = ctC Bu tn m3 (c + 1 + 1) ((pcM Bu tn p (7 * c) Pa).2.1 + 1) (rdA Bu tn p 6 0 p cc nu).2.2.1 (rdA Bu tn p 6 0 p cc nu).2.2.2 := by
          rw [ctC_s, hA, ← r1]
          exact (if_neg (by omega)).trans (if_pos hq)
        rw [eZ, eY]
        obtain ⟨i1, i2, i3, i4, i5, i6, i7⟩ := ih (c + 1) ((pcM Bu tn p (7 * c) Pa).2.1 + 1) (pcM Bu tn p (7 * c) Pa).1 m3 (rdA Bu tn p 6 0 p cc nu).2.2.1 (rdA Bu tn p 6 0 p cc nu).2.2.2 (by omega) (by omega) (by omega) (by omega)
        refine ⟨i1, i2, i3, fun x hx => (i4 x (by omega)).trans (pcM_low hx), ⟨by omega, i5.2⟩, fun z i hi hi2 => ?_, fun z G c2 nu2 k hk => ?_⟩
        · by_cases y : i = c
          · subst y
            exact ⟨j, hj, (i4 _ (by omega)).trans hl⟩
          · exact i6 z i (by omega) hi2
        · obtain ⟨k2, rfl⟩ : ∃ k2, k = k2 + 1 := ⟨k - 1, by omega⟩
          obtain ⟨j2, hj2, hA2, hl2, hf, hg⟩ := ex_1 (G := G) (cc := c2) (nu := nu2) (v := 0) hw i4
          have r1' := (pc_rd (Bu := Bu) (tn := tn) (pn := p) (b := 7 * c) (Pa := Pa) (nu := nu2) (c := c2)).1
          rw [exC_s, exR_s, hA2, ← r1']
          dsimp only
          rw [hf]
          split
          · first
              | rw [if_pos hq, hg]
              | rw [hg]
            exact i7 z _ _ _ k2 (by omega)
          · exact ⟨rfl, rfl⟩
      · have hq : ¬ ((pcM Bu tn p (7 * c) Pa).2.1 < tn ∧ Bu (pcM Bu tn p (7 * c) Pa).2.1 = 59) := fun z => hs ((hrM_ch (by decide)).mpr z)
        have eZ : prM Bu tn (m + 1) c p Pa = (c + 1, pcM Bu tn p (7 * c) Pa) := by
          rw [prM_s]
          exact if_neg (fun z => hs z.2)
        rw [eZ]
        have hv : c < c + 1 ∧ c + 1 ≤ 31 ∧ (¬ bad tn (c + 1, pcM Bu tn p (7 * c) Pa) → 2 * (c + 1) ≤ (pcM Bu tn p (7 * c) Pa).2.1 + 1 ∧ (pcM Bu tn p (7 * c) Pa).2.1 ≤ tn) := ⟨by omega, by omega, fun _ => ⟨by omega, hpt⟩⟩
        by_cases he : (pcM Bu tn p (7 * c) Pa).2.1 = tn
        · have eY : ctC Bu tn (m3 + 1) (c + 1) p cc nu = (some (c + 1), (rdA Bu tn p 6 0 p cc nu).2) := by
            rw [ctC_s, hA, ← r1]
            exact if_pos he
          rw [eY]
          have hb : ¬ bad tn (c + 1, pcM Bu tn p (7 * c) Pa) := fun z => z.elim (fun z => absurd (show (pcM Bu tn p (7 * c) Pa).2.2 = true from z) (by rw [hw]; decide)) (fun z => absurd (show (pcM Bu tn p (7 * c) Pa).2.1 < tn from z) (by omega))
          refine ⟨r1.symm, fun v h => ⟨(Option.some.inj h).symm, hb⟩, fun h => (nomatch h), fun x hx => pcM_low hx, hv, fun _ i hi hi2 => ?_, fun _ G c2 nu2 k hk => ?_⟩
          · have hi2 : i < c + 1 := hi2
            have y : i = c := by omega
            subst y
            exact ⟨j, hj, hl⟩
          · have hk : c + k = c + 1 := hk
            have ek : k = 0 + 1 := by omega
            subst ek
            obtain ⟨j2, hj2, hA2, hl2, hf, hg⟩ := ex_1 (Pz := (pcM Bu tn p (7 * c) Pa).1) (G := G) (cc := c2) (nu := nu2) (v := 0) hw (fun _ _ => rfl)
            rw [exC_s, exR_s, hA2]
            dsimp only
            rw [hf]
            split
            · rw [hg]
              exact ⟨rfl, rfl⟩
            · exact ⟨rfl, rfl⟩
        · have eY : ctC Bu tn (m3 + 1) (c + 1) p cc nu = (none, (rdA Bu tn p 6 0 p cc nu).2) := by
            rw [ctC_s, hA, ← r1]
            exact (if_neg he).trans (if_neg hq)
          rw [eY]
          have hb : bad tn (c + 1, pcM Bu tn p (7 * c) Pa) := Or.inr (show (pcM Bu tn p (7 * c) Pa).2.1 < tn by omega)
          exact ⟨r1.symm, fun v h => (nomatch h), fun _ => hb, fun x hx => pcM_low hx, hv, fun z => absurd hb z, fun z => absurd hb z⟩
