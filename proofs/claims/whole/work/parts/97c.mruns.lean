/-! the reference runs its commands -/
theorem Fp8.rf {f : Nat → Option XE} {a : Nat} : Fp8 f f a := fun _ _ => rfl
theorem Fp8.w {f g k : Nat → Option XE} {a x : Nat} (h : Fp8 f g a) (y : Fr g k x (x + 1)) (hx : x = a ∨ x = a + 8) : Fp8 f k a := fun c hc => (y c (by omega)).trans (h c hc)
theorem Fp8.wd {f g : Nat → Option XE} {a lo hi : Nat} (h : Fp8 f g a) (h1 : lo ≤ a) (h2 : a + 9 ≤ hi) : Fr f g lo hi := fun c hc => h c (by omega)
theorem hrM_lt {Bu : Nat → Int32} {tn p : Nat} (h : hrM Bu tn p = 59) : p < tn := by
  unfold hrM at h
  split at h
  · assumption
  · exact absurd h (by decide)
theorem ndM_ge {Bu : Nat → Int32} {tn : Nat} {c : Int32} {s : Nat × Bool} : s.1 ≤ (ndM Bu tn c s).1 := by
  unfold ndM
  cases s.2
  · rw [cond_false]
    split
    · show s.1 ≤ s.1 + 1; omega
    · exact Nat.le_refl _
  · exact Nat.le_refl _
theorem dgM_ge {Bu : Nat → Int32} {tn mx : Nat} {s : Nat × Bool} : s.1 ≤ (dgM Bu tn mx s).2.1 := by
  unfold dgM
  split
  · show s.1 ≤ s.1 + _; omega
  · exact Nat.le_refl _
theorem daM_ge {Bu : Nat → Int32} {tn mx : Nat} {c : Int32} {s : Nat × Bool} : s.1 ≤ (daM Bu tn c mx s).2.1 := Nat.le_trans ndM_ge dgM_ge
theorem pcM_p {Bu : Nat → Int32} {tn pn b : Nat} {Pa : Nat → Int32} (e1 : hrM Bu tn pn = 112) : pcM Bu tn pn b Pa = ((xw Pa b (hrM Bu tn pn)), (ndM Bu tn 114 (ndM Bu tn 101 (nd3 Bu tn 108 97 121 (pn + 1, false))))) := by
  unfold pcM
  rw [if_pos e1]
theorem pcM_u {Bu : Nat → Int32} {tn pn b : Nat} {Pa : Nat → Int32} (e1 : ¬ hrM Bu tn pn = 112) (e2 : hrM Bu tn pn = 111) (e3 : hrM Bu tn (pn + 1) = 117) : pcM Bu tn pn b Pa = (xw (xw (xw Pa b (hrM Bu tn pn)) b 117) (b + 1) (daM Bu tn 32 1 (ndM Bu tn 116 (ndM Bu tn 117 (pn + 1, false)))).1, (daM Bu tn 32 1 (ndM Bu tn 116 (ndM Bu tn 117 (pn + 1, false)))).2) := by
  unfold pcM
  rw [if_neg e1, if_pos e2, if_pos e3]
theorem pcM_o {Bu : Nat → Int32} {tn pn b : Nat} {Pa : Nat → Int32} (e1 : ¬ hrM Bu tn pn = 112) (e2 : hrM Bu tn pn = 111) (e3 : ¬ hrM Bu tn (pn + 1) = 117) : pcM Bu tn pn b Pa = (xw (xw Pa b (hrM Bu tn pn)) (b + 1) (daM Bu tn 32 1 (nd3 Bu tn 112 101 110 (pn + 1, false))).1, (daM Bu tn 32 1 (nd3 Bu tn 112 101 110 (pn + 1, false))).2) := by
  unfold pcM
  rw [if_neg e1, if_pos e2, if_neg e3]
theorem pcM_b {Bu : Nat → Int32} {tn pn b : Nat} {Pa : Nat → Int32} (e1 : ¬ hrM Bu tn pn = 112) (e2 : ¬ hrM Bu tn pn = 111) (e4 : hrM Bu tn pn = 98) : pcM Bu tn pn b Pa = ((xw (xw (xw (xw (xw (xw (xw Pa b (hrM Bu tn pn)) (b + 1) (daM Bu tn 32 1 (ndM Bu tn 116 (ndM Bu tn 101 (pn + 1, false)))).1) (b + 2) (daM Bu tn 32 2 (daM Bu tn 32 1 (ndM Bu tn 116 (ndM Bu tn 101 (pn + 1, false)))).2).1) (b + 3) (daM Bu tn 32 3 (daM Bu tn 32 2 (daM Bu tn 32 1 (ndM Bu tn 116 (ndM Bu tn 101 (pn + 1, false)))).2).2).1) (b + 4) (daM Bu tn 45 3 (daM Bu tn 32 3 (daM Bu tn 32 2 (daM Bu tn 32 1 (ndM Bu tn 116 (ndM Bu tn 101 (pn + 1, false)))).2).2).2).1) (b + 5) (daM Bu tn 32 1 (daM Bu tn 45 3 (daM Bu tn 32 3 (daM Bu tn 32 2 (daM Bu tn 32 1 (ndM Bu tn 116 (ndM Bu tn 101 (pn + 1, false)))).2).2).2).2).1) (b + 6) (daM Bu tn 32 2 (daM Bu tn 32 1 (daM Bu tn 45 3 (daM Bu tn 32 3 (daM Bu tn 32 2 (daM Bu tn 32 1 (ndM Bu tn 116 (ndM Bu tn 101 (pn + 1, false)))).2).2).2).2).2).1), (daM Bu tn 32 2 (daM Bu tn 32 1 (daM Bu tn 45 3 (daM Bu tn 32 3 (daM Bu tn 32 2 (daM Bu tn 32 1 (ndM Bu tn 116 (ndM Bu tn 101 (pn + 1, false)))).2).2).2).2).2).2) := by
  unfold pcM
  rw [if_neg e1, if_neg e2, if_pos e4]
theorem pcM_s {Bu : Nat → Int32} {tn pn b : Nat} {Pa : Nat → Int32} (e1 : ¬ hrM Bu tn pn = 112) (e2 : ¬ hrM Bu tn pn = 111) (e4 : ¬ hrM Bu tn pn = 98) (e5 : hrM Bu tn pn = 115) : pcM Bu tn pn b Pa = (xw (xw Pa b (hrM Bu tn pn)) (b + 1) (daM Bu tn 32 3 (ndM Bu tn 101 (ndM Bu tn 108 (nd3 Bu tn 101 116 116 (pn + 1, false))))).1, (daM Bu tn 32 3 (ndM Bu tn 101 (ndM Bu tn 108 (nd3 Bu tn 101 116 116 (pn + 1, false))))).2) := by
  unfold pcM
  rw [if_neg e1, if_neg e2, if_neg e4, if_pos e5]
theorem pcM_l {Bu : Nat → Int32} {tn pn b : Nat} {Pa : Nat → Int32} (e1 : ¬ hrM Bu tn pn = 112) (e2 : ¬ hrM Bu tn pn = 111) (e4 : ¬ hrM Bu tn pn = 98) (e5 : ¬ hrM Bu tn pn = 115) (e6 : hrM Bu tn pn = 108) : pcM Bu tn pn b Pa = ((xw Pa b (hrM Bu tn pn)), (ndM Bu tn 114 (nd3 Bu tn 97 116 101 (pn + 1, false)))) := by
  unfold pcM
  rw [if_neg e1, if_neg e2, if_neg e4, if_neg e5, if_pos e6]
theorem pcM_d {Bu : Nat → Int32} {tn pn b : Nat} {Pa : Nat → Int32} (e1 : ¬ hrM Bu tn pn = 112) (e2 : ¬ hrM Bu tn pn = 111) (e4 : ¬ hrM Bu tn pn = 98) (e5 : ¬ hrM Bu tn pn = 115) (e6 : ¬ hrM Bu tn pn = 108) : pcM Bu tn pn b Pa = ((xw Pa b (hrM Bu tn pn)), (pn, true)) := by
  unfold pcM
  rw [if_neg e1, if_neg e2, if_neg e4, if_neg e5, if_neg e6]
theorem pcM_le {Bu : Nat → Int32} {tn pn b : Nat} {Pa : Nat → Int32} : (pcM Bu tn pn b Pa).2.1 ≤ pn + 40 := by
  by_cases e1 : hrM Bu tn pn = 112
  · rw [pcM_p e1]
    have h0 : ((pn + 1, false) : Nat × Bool).1 = pn + 1 := rfl
    have l0 := ndM_le (Bu := Bu) (tn := tn) (c := 108) (s := (pn + 1, false))
    have l1 := ndM_le (Bu := Bu) (tn := tn) (c := 97) (s := (ndM Bu tn 108 (pn + 1, false)))
    have l2 := ndM_le (Bu := Bu) (tn := tn) (c := 121) (s := (ndM Bu tn 97 (ndM Bu tn 108 (pn + 1, false))))
    have l3 := ndM_le (Bu := Bu) (tn := tn) (c := 101) (s := (ndM Bu tn 121 (ndM Bu tn 97 (ndM Bu tn 108 (pn + 1, false)))))
    have l4 := ndM_le (Bu := Bu) (tn := tn) (c := 114) (s := (ndM Bu tn 101 (ndM Bu tn 121 (ndM Bu tn 97 (ndM Bu tn 108 (pn + 1, false))))))
    show (ndM Bu tn 114 (ndM Bu tn 101 (ndM Bu tn 121 (ndM Bu tn 97 (ndM Bu tn 108 (pn + 1, false)))))).1 ≤ pn + 40
    omega
  by_cases e2 : hrM Bu tn pn = 111
  · by_cases e3 : hrM Bu tn (pn + 1) = 117
    · rw [pcM_u e1 e2 e3]
      have h0 : ((pn + 1, false) : Nat × Bool).1 = pn + 1 := rfl
      have l0 := ndM_le (Bu := Bu) (tn := tn) (c := 117) (s := (pn + 1, false))
      have l1 := ndM_le (Bu := Bu) (tn := tn) (c := 116) (s := (ndM Bu tn 117 (pn + 1, false)))
      have l2 := daM_le (Bu := Bu) (tn := tn) (c := 32) (mx := 1) (s := (ndM Bu tn 116 (ndM Bu tn 117 (pn + 1, false))))
      show (daM Bu tn 32 1 (ndM Bu tn 116 (ndM Bu tn 117 (pn + 1, false)))).2.1 ≤ pn + 40
      omega
    · rw [pcM_o e1 e2 e3]
      have h0 : ((pn + 1, false) : Nat × Bool).1 = pn + 1 := rfl
      have l0 := ndM_le (Bu := Bu) (tn := tn) (c := 112) (s := (pn + 1, false))
      have l1 := ndM_le (Bu := Bu) (tn := tn) (c := 101) (s := (ndM Bu tn 112 (pn + 1, false)))
      have l2 := ndM_le (Bu := Bu) (tn := tn) (c := 110) (s := (ndM Bu tn 101 (ndM Bu tn 112 (pn + 1, false))))
      have l3 := daM_le (Bu := Bu) (tn := tn) (c := 32) (mx := 1) (s := (ndM Bu tn 110 (ndM Bu tn 101 (ndM Bu tn 112 (pn + 1, false)))))
      show (daM Bu tn 32 1 (ndM Bu tn 110 (ndM Bu tn 101 (ndM Bu tn 112 (pn + 1, false))))).2.1 ≤ pn + 40
      omega
  by_cases e4 : hrM Bu tn pn = 98
  · rw [pcM_b e1 e2 e4]
    have h0 : ((pn + 1, false) : Nat × Bool).1 = pn + 1 := rfl
    have l0 := ndM_le (Bu := Bu) (tn := tn) (c := 101) (s := (pn + 1, false))
    have l1 := ndM_le (Bu := Bu) (tn := tn) (c := 116) (s := (ndM Bu tn 101 (pn + 1, false)))
    have l2 := daM_le (Bu := Bu) (tn := tn) (c := 32) (mx := 1) (s := (ndM Bu tn 116 (ndM Bu tn 101 (pn + 1, false))))
    have l3 := daM_le (Bu := Bu) (tn := tn) (c := 32) (mx := 2) (s := (daM Bu tn 32 1 (ndM Bu tn 116 (ndM Bu tn 101 (pn + 1, false)))).2)
    have l4 := daM_le (Bu := Bu) (tn := tn) (c := 32) (mx := 3) (s := (daM Bu tn 32 2 (daM Bu tn 32 1 (ndM Bu tn 116 (ndM Bu tn 101 (pn + 1, false)))).2).2)
    have l5 := daM_le (Bu := Bu) (tn := tn) (c := 45) (mx := 3) (s := (daM Bu tn 32 3 (daM Bu tn 32 2 (daM Bu tn 32 1 (ndM Bu tn 116 (ndM Bu tn 101 (pn + 1, false)))).2).2).2)
    have l6 := daM_le (Bu := Bu) (tn := tn) (c := 32) (mx := 1) (s := (daM Bu tn 45 3 (daM Bu tn 32 3 (daM Bu tn 32 2 (daM Bu tn 32 1 (ndM Bu tn 116 (ndM Bu tn 101 (pn + 1, false)))).2).2).2).2)
    have l7 := daM_le (Bu := Bu) (tn := tn) (c := 32) (mx := 2) (s := (daM Bu tn 32 1 (daM Bu tn 45 3 (daM Bu tn 32 3 (daM Bu tn 32 2 (daM Bu tn 32 1 (ndM Bu tn 116 (ndM Bu tn 101 (pn + 1, false)))).2).2).2).2).2)
    show (daM Bu tn 32 2 (daM Bu tn 32 1 (daM Bu tn 45 3 (daM Bu tn 32 3 (daM Bu tn 32 2 (daM Bu tn 32 1 (ndM Bu tn 116 (ndM Bu tn 101 (pn + 1, false)))).2).2).2).2).2).2.1 ≤ pn + 40
    omega
  by_cases e5 : hrM Bu tn pn = 115
  · rw [pcM_s e1 e2 e4 e5]
    have h0 : ((pn + 1, false) : Nat × Bool).1 = pn + 1 := rfl
    have l0 := ndM_le (Bu := Bu) (tn := tn) (c := 101) (s := (pn + 1, false))
    have l1 := ndM_le (Bu := Bu) (tn := tn) (c := 116) (s := (ndM Bu tn 101 (pn + 1, false)))
    have l2 := ndM_le (Bu := Bu) (tn := tn) (c := 116) (s := (ndM Bu tn 116 (ndM Bu tn 101 (pn + 1, false))))
    have l3 := ndM_le (Bu := Bu) (tn := tn) (c := 108) (s := (ndM Bu tn 116 (ndM Bu tn 116 (ndM Bu tn 101 (pn + 1, false)))))
    have l4 := ndM_le (Bu := Bu) (tn := tn) (c := 101) (s := (ndM Bu tn 108 (ndM Bu tn 116 (ndM Bu tn 116 (ndM Bu tn 101 (pn + 1, false))))))
    have l5 := daM_le (Bu := Bu) (tn := tn) (c := 32) (mx := 3) (s := (ndM Bu tn 101 (ndM Bu tn 108 (ndM Bu tn 116 (ndM Bu tn 116 (ndM Bu tn 101 (pn + 1, false)))))))
    show (daM Bu tn 32 3 (ndM Bu tn 101 (ndM Bu tn 108 (ndM Bu tn 116 (ndM Bu tn 116 (ndM Bu tn 101 (pn + 1, false))))))).2.1 ≤ pn + 40
    omega
  by_cases e6 : hrM Bu tn pn = 108
  · rw [pcM_l e1 e2 e4 e5 e6]
    have h0 : ((pn + 1, false) : Nat × Bool).1 = pn + 1 := rfl
    have l0 := ndM_le (Bu := Bu) (tn := tn) (c := 97) (s := (pn + 1, false))
    have l1 := ndM_le (Bu := Bu) (tn := tn) (c := 116) (s := (ndM Bu tn 97 (pn + 1, false)))
    have l2 := ndM_le (Bu := Bu) (tn := tn) (c := 101) (s := (ndM Bu tn 116 (ndM Bu tn 97 (pn + 1, false))))
    have l3 := ndM_le (Bu := Bu) (tn := tn) (c := 114) (s := (ndM Bu tn 101 (ndM Bu tn 116 (ndM Bu tn 97 (pn + 1, false)))))
    show (ndM Bu tn 114 (ndM Bu tn 101 (ndM Bu tn 116 (ndM Bu tn 97 (pn + 1, false))))).1 ≤ pn + 40
    omega
  rw [pcM_d e1 e2 e4 e5 e6]
  show pn ≤ pn + 40; omega
theorem pcM_ge {Bu : Nat → Int32} {tn pn b : Nat} {Pa : Nat → Int32} : (pcM Bu tn pn b Pa).2.2 = false → pn + 1 ≤ (pcM Bu tn pn b Pa).2.1 := by
  by_cases e1 : hrM Bu tn pn = 112
  · rw [pcM_p e1]
    have h0 : ((pn + 1, false) : Nat × Bool).1 = pn + 1 := rfl
    have g0 := ndM_ge (Bu := Bu) (tn := tn) (c := 108) (s := (pn + 1, false))
    have g1 := ndM_ge (Bu := Bu) (tn := tn) (c := 97) (s := (ndM Bu tn 108 (pn + 1, false)))
    have g2 := ndM_ge (Bu := Bu) (tn := tn) (c := 121) (s := (ndM Bu tn 97 (ndM Bu tn 108 (pn + 1, false))))
    have g3 := ndM_ge (Bu := Bu) (tn := tn) (c := 101) (s := (ndM Bu tn 121 (ndM Bu tn 97 (ndM Bu tn 108 (pn + 1, false)))))
    have g4 := ndM_ge (Bu := Bu) (tn := tn) (c := 114) (s := (ndM Bu tn 101 (ndM Bu tn 121 (ndM Bu tn 97 (ndM Bu tn 108 (pn + 1, false))))))
    intro _
    show pn + 1 ≤ (ndM Bu tn 114 (ndM Bu tn 101 (ndM Bu tn 121 (ndM Bu tn 97 (ndM Bu tn 108 (pn + 1, false)))))).1
    omega
  by_cases e2 : hrM Bu tn pn = 111
  · by_cases e3 : hrM Bu tn (pn + 1) = 117
    · rw [pcM_u e1 e2 e3]
      have h0 : ((pn + 1, false) : Nat × Bool).1 = pn + 1 := rfl
      have g0 := ndM_ge (Bu := Bu) (tn := tn) (c := 117) (s := (pn + 1, false))
      have g1 := ndM_ge (Bu := Bu) (tn := tn) (c := 116) (s := (ndM Bu tn 117 (pn + 1, false)))
      have g2 := daM_ge (Bu := Bu) (tn := tn) (c := 32) (mx := 1) (s := (ndM Bu tn 116 (ndM Bu tn 117 (pn + 1, false))))
      intro _
      show pn + 1 ≤ (daM Bu tn 32 1 (ndM Bu tn 116 (ndM Bu tn 117 (pn + 1, false)))).2.1
      omega
    · rw [pcM_o e1 e2 e3]
      have h0 : ((pn + 1, false) : Nat × Bool).1 = pn + 1 := rfl
      have g0 := ndM_ge (Bu := Bu) (tn := tn) (c := 112) (s := (pn + 1, false))
      have g1 := ndM_ge (Bu := Bu) (tn := tn) (c := 101) (s := (ndM Bu tn 112 (pn + 1, false)))
      have g2 := ndM_ge (Bu := Bu) (tn := tn) (c := 110) (s := (ndM Bu tn 101 (ndM Bu tn 112 (pn + 1, false))))
      have g3 := daM_ge (Bu := Bu) (tn := tn) (c := 32) (mx := 1) (s := (ndM Bu tn 110 (ndM Bu tn 101 (ndM Bu tn 112 (pn + 1, false)))))
      intro _
      show pn + 1 ≤ (daM Bu tn 32 1 (ndM Bu tn 110 (ndM Bu tn 101 (ndM Bu tn 112 (pn + 1, false))))).2.1
      omega
  by_cases e4 : hrM Bu tn pn = 98
  · rw [pcM_b e1 e2 e4]
    have h0 : ((pn + 1, false) : Nat × Bool).1 = pn + 1 := rfl
    have g0 := ndM_ge (Bu := Bu) (tn := tn) (c := 101) (s := (pn + 1, false))
    have g1 := ndM_ge (Bu := Bu) (tn := tn) (c := 116) (s := (ndM Bu tn 101 (pn + 1, false)))
    have g2 := daM_ge (Bu := Bu) (tn := tn) (c := 32) (mx := 1) (s := (ndM Bu tn 116 (ndM Bu tn 101 (pn + 1, false))))
    have g3 := daM_ge (Bu := Bu) (tn := tn) (c := 32) (mx := 2) (s := (daM Bu tn 32 1 (ndM Bu tn 116 (ndM Bu tn 101 (pn + 1, false)))).2)
    have g4 := daM_ge (Bu := Bu) (tn := tn) (c := 32) (mx := 3) (s := (daM Bu tn 32 2 (daM Bu tn 32 1 (ndM Bu tn 116 (ndM Bu tn 101 (pn + 1, false)))).2).2)
    have g5 := daM_ge (Bu := Bu) (tn := tn) (c := 45) (mx := 3) (s := (daM Bu tn 32 3 (daM Bu tn 32 2 (daM Bu tn 32 1 (ndM Bu tn 116 (ndM Bu tn 101 (pn + 1, false)))).2).2).2)
    have g6 := daM_ge (Bu := Bu) (tn := tn) (c := 32) (mx := 1) (s := (daM Bu tn 45 3 (daM Bu tn 32 3 (daM Bu tn 32 2 (daM Bu tn 32 1 (ndM Bu tn 116 (ndM Bu tn 101 (pn + 1, false)))).2).2).2).2)
    have g7 := daM_ge (Bu := Bu) (tn := tn) (c := 32) (mx := 2) (s := (daM Bu tn 32 1 (daM Bu tn 45 3 (daM Bu tn 32 3 (daM Bu tn 32 2 (daM Bu tn 32 1 (ndM Bu tn 116 (ndM Bu tn 101 (pn + 1, false)))).2).2).2).2).2)
    intro _
    show pn + 1 ≤ (daM Bu tn 32 2 (daM Bu tn 32 1 (daM Bu tn 45 3 (daM Bu tn 32 3 (daM Bu tn 32 2 (daM Bu tn 32 1 (ndM Bu tn 116 (ndM Bu tn 101 (pn + 1, false)))).2).2).2).2).2).2.1
    omega
  by_cases e5 : hrM Bu tn pn = 115
  · rw [pcM_s e1 e2 e4 e5]
    have h0 : ((pn + 1, false) : Nat × Bool).1 = pn + 1 := rfl
    have g0 := ndM_ge (Bu := Bu) (tn := tn) (c := 101) (s := (pn + 1, false))
    have g1 := ndM_ge (Bu := Bu) (tn := tn) (c := 116) (s := (ndM Bu tn 101 (pn + 1, false)))
    have g2 := ndM_ge (Bu := Bu) (tn := tn) (c := 116) (s := (ndM Bu tn 116 (ndM Bu tn 101 (pn + 1, false))))
    have g3 := ndM_ge (Bu := Bu) (tn := tn) (c := 108) (s := (ndM Bu tn 116 (ndM Bu tn 116 (ndM Bu tn 101 (pn + 1, false)))))
    have g4 := ndM_ge (Bu := Bu) (tn := tn) (c := 101) (s := (ndM Bu tn 108 (ndM Bu tn 116 (ndM Bu tn 116 (ndM Bu tn 101 (pn + 1, false))))))
    have g5 := daM_ge (Bu := Bu) (tn := tn) (c := 32) (mx := 3) (s := (ndM Bu tn 101 (ndM Bu tn 108 (ndM Bu tn 116 (ndM Bu tn 116 (ndM Bu tn 101 (pn + 1, false)))))))
    intro _
    show pn + 1 ≤ (daM Bu tn 32 3 (ndM Bu tn 101 (ndM Bu tn 108 (ndM Bu tn 116 (ndM Bu tn 116 (ndM Bu tn 101 (pn + 1, false))))))).2.1
    omega
  by_cases e6 : hrM Bu tn pn = 108
  · rw [pcM_l e1 e2 e4 e5 e6]
    have h0 : ((pn + 1, false) : Nat × Bool).1 = pn + 1 := rfl
    have g0 := ndM_ge (Bu := Bu) (tn := tn) (c := 97) (s := (pn + 1, false))
    have g1 := ndM_ge (Bu := Bu) (tn := tn) (c := 116) (s := (ndM Bu tn 97 (pn + 1, false)))
    have g2 := ndM_ge (Bu := Bu) (tn := tn) (c := 101) (s := (ndM Bu tn 116 (ndM Bu tn 97 (pn + 1, false))))
    have g3 := ndM_ge (Bu := Bu) (tn := tn) (c := 114) (s := (ndM Bu tn 101 (ndM Bu tn 116 (ndM Bu tn 97 (pn + 1, false)))))
    intro _
    show pn + 1 ≤ (ndM Bu tn 114 (ndM Bu tn 101 (ndM Bu tn 116 (ndM Bu tn 97 (pn + 1, false))))).1
    omega
  rw [pcM_d e1 e2 e4 e5 e6]
  intro h; exact nomatch h
/-- the reference's reading: how many commands, their numbers, where it ends, whether something was wrong -/
def prM (Bu : Nat → Int32) (tn : Nat) : Nat → Nat → Nat → (Nat → Int32) → Nat × ((Nat → Int32) × (Nat × Bool))
  | 0, c, p, Pa => (c, (Pa, (p, true)))
  | m + 1, c, p, Pa => if (pcM Bu tn p (7 * c) Pa).2.2 = false ∧ hrM Bu tn (pcM Bu tn p (7 * c) Pa).2.1 = 59 then prM Bu tn m (c + 1) ((pcM Bu tn p (7 * c) Pa).2.1 + 1) (pcM Bu tn p (7 * c) Pa).1 else (c + 1, pcM Bu tn p (7 * c) Pa)
theorem prM_s {Bu : Nat → Int32} {tn m c p : Nat} {Pa : Nat → Int32} : prM Bu tn (m + 1) c p Pa = if (pcM Bu tn p (7 * c) Pa).2.2 = false ∧ hrM Bu tn (pcM Bu tn p (7 * c) Pa).2.1 = 59 then prM Bu tn m (c + 1) ((pcM Bu tn p (7 * c) Pa).2.1 + 1) (pcM Bu tn p (7 * c) Pa).1 else (c + 1, pcM Bu tn p (7 * c) Pa) := rfl
theorem ml_231a {S : XSc} {d : Nat} {h : XH} {Q : XO → XH → Prop} {a tn : Nat} {ch sv ea fa ol th : Int32} {Bu : Nat → Int32} (b0 : IA h.1 3 (a + 5) 60 Bu) (h32 : 32 ≤ a) (ht : tn ≤ 60) {Z : Nat × ((Nat → Int32) × (Nat × Bool))} (k : ∀ f, f a = some (.inr (9, mO a ch sv (nI tn) ea fa ol th (nI Z.2.2.1) (bI Z.2.2.2))) → IA f 0 (a + 8) 420 Z.2.1 → Fp8 h.1 f a → Z.1 ≤ 61 → Z.2.2.1 ≤ 200 → xP S (d + 6) 231 72 [(0, .ref a), (1, .int (nI Z.1))] [] (f, h.2) Q) : ∀ (m : Nat) (m1 : Nat) (c : Nat) (p : Nat) (Pa : Nat → Int32) (f : Nat → Option XE), m1 < m → (prM Bu tn m1 c p Pa = Z) → (p ≤ tn) → (2 * c ≤ p) → (tn < p + m1) → (f a = some (.inr (9, mO a ch sv (nI tn) ea fa ol th (nI p) 0))) → (IA f 0 (a + 8) 420 Pa) → (Fp8 h.1 f a) → xP S (d + 6) 231 14 [(0, .ref a), (1, .int (nI c)), (2, .int 1)] [] (f, h.2) Q := by
  intro m
  induction m with
  | zero => intro m1 c p Pa f hm; exact absurd hm (Nat.not_lt_zero _)
  | succ m ih =>
    intro m1 c p Pa f hm hz hp hc2 hmm o9 p9 hF
    obtain ⟨m9, rfl⟩ : ∃ m9, m1 = m9 + 1 := ⟨m1 - 1, by omega⟩
    have b9 := b0.fr (hF (a + 5) (by omega))
    have gz := pcM_le (Bu := Bu) (tn := tn) (pn := p) (b := 7 * c) (Pa := Pa)
    refine xs_f 15 r_231_14 rfl ?_
    refine xs_f 18 r_231_15 rfl ?_
    refine xs_f 19 r_231_18 rfl ?_
    refine xs_f 21 r_231_19 rfl ?_
    refine xs_f 22 r_231_21 rfl ?_
    refine xs_f 23 r_231_22 rfl ?_
    refine xs_call (lv2 := [(0, _), (1, _)]) r_231_23 rfl rfl (by decide) (xcan_0 rfl rfl (by first | assumption | exact o9) (by rfl)) rfl (xP_lv [(0, .ref a), (1, .int (nI (7 * c)))] rfl ⟨rfl, (congrArg (fun z => some (Value.int z)) (nI_mulE (nI_k 7) rfl)), trivial⟩ (m_229 (h := (f, h.2)) o9 b9 p9 h32 ht (by omega) (b := 7 * c) (by omega) (fun f1 o1 p1 y1 => ?_)))
    have Bu2 := b9.fr (y1 _ (by omega))
    have Y3 := hF.tr y1
    refine xK_0 rfl ?_
    refine xs_f 29 (lv2 := [(1, _), (0, _), (2, _)]) r_231_26 rfl ?_
    refine xs_f 30 r_231_29 rfl ?_
    refine xs_get 33 r_231_30 rfl rfl (by first | assumption | exact o1) (by rfl) ?_
    refine xs_if 36 49 r_231_33 rfl (fun hw => ?_) (fun hw => ?_)
    · have hw2 := (bI_0 _).mp hw
      refine xs_f 37 r_231_36 rfl ?_
      refine xs_call (lv2 := [(0, _)]) r_231_37 rfl rfl (by decide) (xcan_0 rfl rfl (by first | assumption | exact o1) (by rfl)) rfl (m_222 o1 Bu2 h32 ht (by omega) ?_)
      refine xK_v rfl ?_
      refine xs_f 42 r_231_40 rfl ?_
      refine xs_if 45 49 r_231_42 rfl (fun hh => ?_) (fun hh => ?_)
      · refine xs_f 46 r_231_45 rfl ?_
        refine xs_f 50 r_231_46 rfl ?_
        refine xs_f 51 (lv2 := [(2, _), (1, _), (0, _)]) r_231_50 rfl ?_
        refine xs_f 52 r_231_51 rfl ?_
        refine xs_f 53 r_231_52 rfl ?_
        refine xs_get 56 r_231_53 rfl rfl (by first | assumption | exact o1) (by rfl) ?_
        refine xs_f 57 r_231_56 rfl ?_
        refine xs_f 60 r_231_57 rfl ?_
        refine xs_f 61 r_231_60 rfl ?_
        refine xs_f 65 r_231_61 rfl ?_
        refine xs_f 66 r_231_65 rfl ?_
        refine xs_putC 69 r_231_66 rfl o1 (by rfl) (by rfl) (fun f4 o4 y4 => ?_)
        have Bu5 := Bu2.fr (y4 _ (by omega))
        have Pa6 := p1.fr (y4 _ (by omega))
        have Y7 := Y3.w y4 (by omega)
        refine xs_f 14 r_231_69 rfl ?_
        have ez : prM Bu tn m9 (c + 1) ((pcM Bu tn p (7 * c) Pa).2.1 + 1) (pcM Bu tn p (7 * c) Pa).1 = Z := by
          rw [← hz, prM_s]
          exact (if_pos ⟨hw2, hh⟩).symm
        have gs := pcM_ge hw2
        have gl := hrM_lt hh
        exact xP_lv [(0, .ref a), (1, .int (nI (c + 1))), (2, .int 1)] rfl ⟨rfl, (by rw [nI_succ]; rfl), rfl, trivial⟩ (ih m9 (c + 1) ((pcM Bu tn p (7 * c) Pa).2.1 + 1) (pcM Bu tn p (7 * c) Pa).1 _ (by omega) ez (by omega) (by omega) (by omega) (o4.trans (by rw [nI_succ, hw2]; rfl)) Pa6 Y7)
      · refine xs_f 50 r_231_49 rfl ?_
        refine xs_f 51 (lv2 := [(2, _), (1, _), (0, _)]) r_231_50 rfl ?_
        refine xs_f 52 r_231_51 rfl ?_
        refine xs_f 53 r_231_52 rfl ?_
        refine xs_get 56 r_231_53 rfl rfl (by first | assumption | exact o1) (by rfl) ?_
        refine xs_f 57 r_231_56 rfl ?_
        refine xs_f 64 r_231_57 rfl ?_
        refine xs_f 65 r_231_64 rfl ?_
        refine xs_f 66 r_231_65 rfl ?_
        refine xs_putC 69 r_231_66 rfl o1 (by rfl) (by rfl) (fun f8 o8 y8 => ?_)
        have Bu9 := Bu2.fr (y8 _ (by omega))
        have Pa10 := p1.fr (y8 _ (by omega))
        have Y11 := Y3.w y8 (by omega)
        refine xs_f 14 r_231_69 rfl ?_
        refine xs_f 15 r_231_14 rfl ?_
        refine xs_f 72 r_231_15 rfl ?_
        have ez : Z = (c + 1, (pcM Bu tn p (7 * c) Pa)) := by
          rw [← hz, prM_s]
          first
            | exact if_neg (fun z => absurd z.1 (by rw [hw2]; decide))
            | exact if_neg (fun z => hh z.2)
        rw [ez] at k
        exact xP_lv [(0, .ref a), (1, .int (nI (c + 1)))] rfl ⟨rfl, (by rw [nI_succ]; rfl), trivial⟩ (k _ (o8.trans (by show some (Sum.inr (9, mO a ch sv (nI tn) ea fa ol th (nI (pcM Bu tn p (7 * c) Pa).2.1 + 0) (bI (pcM Bu tn p (7 * c) Pa).2.2))) = _; rw [Int32.add_zero])) Pa10 Y11 (by show c + 1 ≤ 61; omega) (by show (pcM Bu tn p (7 * c) Pa).2.1 ≤ 200; omega))
    · have hw2 := bI_n0 hw
      refine xs_f 50 r_231_49 rfl ?_
      refine xs_f 51 (lv2 := [(2, _), (1, _), (0, _)]) r_231_50 rfl ?_
      refine xs_f 52 r_231_51 rfl ?_
      refine xs_f 53 r_231_52 rfl ?_
      refine xs_get 56 r_231_53 rfl rfl (by first | assumption | exact o1) (by rfl) ?_
      refine xs_f 57 r_231_56 rfl ?_
      refine xs_f 64 r_231_57 rfl ?_
      refine xs_f 65 r_231_64 rfl ?_
      refine xs_f 66 r_231_65 rfl ?_
      refine xs_putC 69 r_231_66 rfl o1 (by rfl) (by rfl) (fun f12 o12 y12 => ?_)
      have Bu13 := Bu2.fr (y12 _ (by omega))
      have Pa14 := p1.fr (y12 _ (by omega))
      have Y15 := Y3.w y12 (by omega)
      refine xs_f 14 r_231_69 rfl ?_
      refine xs_f 15 r_231_14 rfl ?_
      refine xs_f 72 r_231_15 rfl ?_
      have ez : Z = (c + 1, (pcM Bu tn p (7 * c) Pa)) := by
        rw [← hz, prM_s]
        first
          | exact if_neg (fun z => absurd z.1 (by rw [hw2]; decide))
          | exact if_neg (fun z => hh z.2)
      rw [ez] at k
      exact xP_lv [(0, .ref a), (1, .int (nI (c + 1)))] rfl ⟨rfl, (by rw [nI_succ]; rfl), trivial⟩ (k _ (o12.trans (by show some (Sum.inr (9, mO a ch sv (nI tn) ea fa ol th (nI (pcM Bu tn p (7 * c) Pa).2.1 + 0) (bI (pcM Bu tn p (7 * c) Pa).2.2))) = _; rw [Int32.add_zero])) Pa14 Y15 (by show c + 1 ≤ 61; omega) (by show (pcM Bu tn p (7 * c) Pa).2.1 ≤ 200; omega))

def lj (c : Int32) : Nat := if c = 112 then 0 else if c = 111 then 1 else if c = 98 then 2 else if c = 115 then 3 else if c = 108 then 4 else 5
theorem lj_ltr {j : Nat} (h : j < 6) : lj (ltr j) = j := match j, h with
  | 0, _ => by decide
  | 1, _ => by decide
  | 2, _ => by decide
  | 3, _ => by decide
  | 4, _ => by decide
  | 5, _ => by decide
  | j + 6, h => absurd h (by omega)
def xR (Pa : Nat → Int32) (i : Nat) : Nat → Int32 := fun t => Pa (7 * i + 1 + t)
def jR (Pa : Nat → Int32) (i : Nat) : Nat := lj (Pa (7 * i))
/-- the reference's commands from i on: which one fails first, and the row then -/
def exR (Pa : Nat → Int32) : Nat → Nat → (Nat → Int32) → Option Nat × (Nat → Int32)
  | 0, _, G => (none, G)
  | m + 1, i, G => if flG G (xR Pa i) (jR Pa i) = 0 then exR Pa m (i + 1) (gcG G (xR Pa i) (jR Pa i)) else (some i, G)
theorem exR_s {Pa : Nat → Int32} {m i : Nat} {G : Nat → Int32} : exR Pa (m + 1) i G = if flG G (xR Pa i) (jR Pa i) = 0 then exR Pa m (i + 1) (gcG G (xR Pa i) (jR Pa i)) else (some i, G) := rfl
theorem cltC_le {np no : Nat} {pl : Nat → XPl} {q : Nat → XQu} {x : Nat → Int32} {j : Nat} : cltC np no pl q x j ≤ 9 := by
  unfold cltC
  split
  · exact cJoin_le _
  · exact cAsk_le _ _
  · exact betF_le
  · exact cSet_le _ _
  · exact cPst_le _
  · exact cLea_le _ _ _
theorem ml_231c {S : XSc} {d : Nat} {h : XH} {Q : XO → XH → Prop} {a : Nat} {G H Sv Bu Le Pa : Nat → Int32} {ch : Nat} {sv ea fa ol sp wr : Int32} (h32 : 32 ≤ a) (h8 : ch ≤ 8) {cn : Nat} (hcn : cn ≤ 59) {W : Option Nat × (Nat → Int32)} (hL : ∀ i, i < cn → ∃ j, j < 6 ∧ Pa (7 * i) = ltr j) (kB : ∀ i, W.1 = some i → ∀ f Mo, MdP f a G G H Sv Bu Le Mo Pa (nI ch) sv 0 ea (nI i) ol 2 sp wr → Fr h.1 f a (a + 9) → Q (.inl (some (.int 0))) (f, h.2)) (kC : W.1 = none → ∀ f Mo, MdP f a W.2 G (psh ch H G) Sv Bu Le Mo Pa (nI (min (ch + 1) 8)) sv 0 ea fa ol 0 sp wr → Fr h.1 f a (a + 9) → Q (.inl (some (.int (nI cn)))) (f, h.2)) : ∀ (m : Nat) (m1 : Nat) (i : Nat) (Gi : Nat → Int32) (Mo1 : Nat → Int32) (th1 : Int32) (K1 : Nat) (f : Nat → Option XE), m1 < m → (exR Pa m1 i Gi = W) → (i + m1 = cn) → (GOK Gi K1) → (K1 + m1 ≤ 1000) → (MdP f a Gi G H Sv Bu Le Mo1 Pa (nI ch) sv 0 ea fa ol th1 sp wr) → (Fr h.1 f a (a + 9)) → xP S (d + 6) 231 131 [(0, .ref a), (1, .int (nI cn)), (3, .int (nI i))] [] (f, h.2) Q := by
  intro m
  induction m with
  | zero => intro m1 i Gi Mo1 th1 K1 f hm; exact absurd hm (Nat.not_lt_zero _)
  | succ m ih =>
    intro m1 i Gi Mo1 th1 K1 f hm hz him hg hK hM hF
    obtain ⟨o0, g0, b0, H0, Sv0, Bu0, Le0, Mo0, Pa0⟩ := id hM
    refine xs_f 132 r_231_131 rfl ?_
    refine xs_f 133 r_231_132 rfl ?_
    refine xs_if 176 136 r_231_133 rfl (fun hc1 => ?_) (fun hc1 => ?_)
    · have hc1 := (nI_leN rfl rfl (by omega) (by omega)).mp hc1
      have e8 : m1 = 0 := by omega
      subst e8
      have ew : W = (none, Gi) := hz.symm
      refine xs_f 177 r_231_176 rfl ?_
      refine xs_f 178 r_231_177 rfl ?_
      refine xs_f 179 r_231_178 rfl ?_
      refine xs_call (lv2 := [(0, _), (1, _)]) r_231_179 rfl rfl (by decide) (xcan_0 rfl rfl (by first | assumption | exact o0) (by rfl)) rfl ?_
      refine xs_f 1 r_152_0 rfl ?_
      refine xs_f 2 r_152_1 rfl ?_
      refine xs_putC 5 r_152_2 rfl o0 (by rfl) (by rfl) (fun f1 o1 y1 => ?_)
      have g2 := g0.fr (y1 _ (by omega))
      have b3 := b0.fr (y1 _ (by omega))
      have H4 := H0.fr (y1 _ (by omega))
      have Sv5 := Sv0.fr (y1 _ (by omega))
      have Bu6 := Bu0.fr (y1 _ (by omega))
      have Le7 := Le0.fr (y1 _ (by omega))
      have Mo8 := Mo0.fr (y1 _ (by omega))
      have Pa9 := Pa0.fr (y1 _ (by omega))
      have Y10 := hF.tr (y1.wd (by omega) (by omega))
      refine xs_f 6 r_152_5 rfl ?_
      refine xs_ret r_152_6 rfl ?_
      refine xK_v rfl ?_
      refine xs_call (lv2 := [(0, _), (1, _)]) r_231_182 rfl rfl (by decide) (xcan_0 rfl rfl (by first | assumption | exact o1) (by rfl)) rfl (m_156 o1 g2 b3 H4 h32 h8 (fun hq => absurd rfl hq) (fun hq f11 o11 H11 y11 => ?_))
      have g12 := g2.fr (y11 _ (by omega))
      have b13 := b3.fr (y11 _ (by omega))
      have Sv14 := Sv5.fr (y11 _ (by omega))
      have Bu15 := Bu6.fr (y11 _ (by omega))
      have Le16 := Le7.fr (y11 _ (by omega))
      have Mo17 := Mo8.fr (y11 _ (by omega))
      have Pa18 := Pa9.fr (y11 _ (by omega))
      have Y19 := Y10.tr (y11.wd (by omega) (by omega))
      refine xK_v rfl ?_
      refine xs_ret r_231_185 rfl ?_
      first
        | exact kB i (by rw [← hz, exR_s, if_neg (fun z => hc (hz30.mpr z))]) _ _ ⟨o11, g12, b13, H11, Sv14, Bu15, Le16, Mo17, Pa18⟩ Y19
        | exact kC (by rw [ew]) _ _ (by rw [ew]; exact ⟨o11, g12, b13, H11, Sv14, Bu15, Le16, Mo17, Pa18⟩) Y19
    · have hc1 := mt (nI_leN rfl rfl (by omega) (by omega)).mpr hc1
      refine xs_f 137 r_231_136 rfl ?_
      refine xs_f 139 r_231_137 rfl ?_
      refine xs_f 140 r_231_139 rfl ?_
      refine xs_f 141 r_231_140 rfl ?_
      obtain ⟨mn, np, no, nn, N, sc, ho, TS, TH, tr, pl, q, hr0, hk, hN, hs⟩ := id hg
      obtain ⟨hr, en, eo, es⟩ := hr0.nm (by omega)
      subst en
      subst eo
      subst es
      obtain ⟨j, hj, hl⟩ := hL i (by omega)
      have hcl9 := cltC_le (np := npG Gi) (no := noG Gi) (pl := gP Gi) (q := gQ Gi (mnG Gi)) (x := fun t => Pa (7 * i + 1 + t)) (j := j)
      have ejj : jR Pa i = j := by
        unfold jR
        rw [hl]
        exact lj_ltr hj
      have hz30 : cltC (npG Gi) (noG Gi) (gP Gi) (gQ Gi (mnG Gi)) (fun t => Pa (7 * i + 1 + t)) j = 0 ↔ flG Gi (xR Pa i) (jR Pa i) = 0 := by
        rw [ejj]
        exact cltC_0 hr.1.1.2 hr.1.2.1.2
      obtain ⟨m9, rfl⟩ : ∃ m9, m1 = m9 + 1 := ⟨m1 - 1, by omega⟩
      refine xs_call (lv2 := [(0, _), (1, _)]) r_231_141 rfl rfl (by decide) (xcan_0 rfl rfl (by first | assumption | exact o0) (by rfl)) rfl (xP_lv [(0, .ref a), (1, .int (nI (7 * i)))] rfl ⟨rfl, (congrArg (fun z => some (Value.int z)) (nI_mulE (nI_k 7) rfl)), trivial⟩ (m_230 (h := (f, h.2)) hr hk (by omega) o0 g0 Mo0 Pa0 h32 (b := 7 * i) (by omega) hj hl (fun hc f20 o20 g20 ⟨Mo20, m20⟩ y20 => ?_) (fun hc f20 v20 o20 g20 ⟨Mo20, m20⟩ y20 => ?_)))
      · have b21 := b0.fr (y20 _ (by omega))
        have H22 := H0.fr (y20 _ (by omega))
        have Sv23 := Sv0.fr (y20 _ (by omega))
        have Bu24 := Bu0.fr (y20 _ (by omega))
        have Le25 := Le0.fr (y20 _ (by omega))
        have Pa26 := Pa0.fr (y20 _ (by omega))
        have Y27 := hF.tr (y20.wd (by omega) (by omega))
        refine xK_v rfl ?_
        refine xs_f 146 (lv2 := [(4, _), (0, _), (1, _), (3, _)]) r_231_144 rfl ?_
        refine xs_f 147 r_231_146 rfl ?_
        refine xs_get 150 r_231_147 rfl rfl (by first | assumption | exact o20) (by rfl) ?_
        refine xs_if 170 153 r_231_150 rfl (fun hz0 => ?_) (fun hz0 => ?_)
        · have hz0 := (nI_eqN rfl (nI_k 0) (by omega) (by omega)).mp hz0
          exact absurd hz0 hc
        · have hz0 := mt (nI_eqN rfl (nI_k 0) (by omega) (by omega)).mpr hz0
          refine xs_f 154 r_231_153 rfl ?_
          refine xs_f 155 r_231_154 rfl ?_
          refine xs_putC 158 r_231_155 rfl o20 (by rfl) (by rfl) (fun f28 o28 y28 => ?_)
          have g29 := g20.fr (y28 _ (by omega))
          have b30 := b21.fr (y28 _ (by omega))
          have H31 := H22.fr (y28 _ (by omega))
          have Sv32 := Sv23.fr (y28 _ (by omega))
          have Bu33 := Bu24.fr (y28 _ (by omega))
          have Le34 := Le25.fr (y28 _ (by omega))
          have Mo35 := m20.fr (y28 _ (by omega))
          have Pa36 := Pa26.fr (y28 _ (by omega))
          have Y37 := Y27.tr (y28.wd (by omega) (by omega))
          refine xs_f 159 r_231_158 rfl ?_
          refine xs_f 160 r_231_159 rfl ?_
          refine xs_putC 163 r_231_160 rfl o28 (by rfl) (by rfl) (fun f38 o38 y38 => ?_)
          have g39 := g29.fr (y38 _ (by omega))
          have b40 := b30.fr (y38 _ (by omega))
          have H41 := H31.fr (y38 _ (by omega))
          have Sv42 := Sv32.fr (y38 _ (by omega))
          have Bu43 := Bu33.fr (y38 _ (by omega))
          have Le44 := Le34.fr (y38 _ (by omega))
          have Mo45 := Mo35.fr (y38 _ (by omega))
          have Pa46 := Pa36.fr (y38 _ (by omega))
          have Y47 := Y37.tr (y38.wd (by omega) (by omega))
          refine xs_f 164 r_231_163 rfl ?_
          refine xs_f 166 r_231_164 rfl ?_
          refine xs_call (lv2 := [(0, _), (1, _)]) r_231_166 rfl rfl (by decide) (xcan_0 rfl rfl (by first | assumption | exact o38) (by rfl)) rfl (m_156 o38 g39 b40 H41 h32 h8 (fun hq f48 g48 y48 => ?_) (fun hq => absurd hq (by decide)))
          have o49 := (y48 _ (by omega)).trans o38
          have b50 := b40.fr (y48 _ (by omega))
          have H51 := H41.fr (y48 _ (by omega))
          have Sv52 := Sv42.fr (y48 _ (by omega))
          have Bu53 := Bu43.fr (y48 _ (by omega))
          have Le54 := Le44.fr (y48 _ (by omega))
          have Mo55 := Mo45.fr (y48 _ (by omega))
          have Pa56 := Pa46.fr (y48 _ (by omega))
          have Y57 := Y47.tr (y48.wd (by omega) (by omega))
          refine xK_v rfl ?_
          refine xs_ret r_231_169 rfl ?_
          first
            | exact kB i (by rw [← hz, exR_s, if_neg (fun z => hc (hz30.mpr z))]) _ _ ⟨o49, g48, b50, H51, Sv52, Bu53, Le54, Mo55, Pa56⟩ Y57
            | exact kC (by rw [ew]) _ _ (by rw [ew]; exact ⟨o49, g48, b50, H51, Sv52, Bu53, Le54, Mo55, Pa56⟩) Y57
      · have b58 := b0.fr (y20 _ (by omega))
        have H59 := H0.fr (y20 _ (by omega))
        have Sv60 := Sv0.fr (y20 _ (by omega))
        have Bu61 := Bu0.fr (y20 _ (by omega))
        have Le62 := Le0.fr (y20 _ (by omega))
        have Pa63 := Pa0.fr (y20 _ (by omega))
        have Y64 := hF.tr (y20.wd (by omega) (by omega))
        have hfl := hz30.mp hc
        have ew : exR Pa m9 (i + 1) (gcG Gi (xR Pa i) j) = W := by
          rw [← hz, exR_s, if_pos hfl, ejj]
        have hg2 : GOK (gcG Gi (xR Pa i) j) (K1 + 1) := hg.step (by omega) hj (by rw [← ejj]; exact hfl)
        refine xK_v rfl ?_
        refine xs_f 146 (lv2 := [(4, _), (0, _), (1, _), (3, _)]) r_231_144 rfl ?_
        refine xs_f 147 r_231_146 rfl ?_
        refine xs_get 150 r_231_147 rfl rfl (by first | assumption | exact o20) (by rfl) ?_
        refine xs_f 170 r_231_150 rfl ?_
        refine xs_f 173 (lv2 := [(3, _), (4, _), (0, _), (1, _)]) r_231_170 rfl ?_
        refine xs_f 131 r_231_173 rfl ?_
        exact xP_lv [(0, .ref a), (1, .int (nI cn)), (3, .int (nI (i + 1)))] rfl ⟨rfl, rfl, (by rw [nI_succ]; rfl), trivial⟩ (ih m9 (i + 1) (gcG Gi (xR Pa i) j) _ 0 (K1 + 1) _ (by omega) ew (by omega) hg2 (by omega) ⟨o20, g20, b58, H59, Sv60, Bu61, Le62, m20, Pa63⟩ Y64)

theorem m_231b {S : XSc} {d : Nat} {h : XH} {Q : XO → XH → Prop} {a tn : Nat} {G B H Sv Bu Le Mo Pa : Nat → Int32} {ch : Nat} {sv ea fa ol th : Int32} {pe cn K : Nat} {wb : Bool} (hM : MdP h.1 a G B H Sv Bu Le Mo Pa (nI ch) sv (nI tn) ea fa ol th (nI pe) (bI wb)) (h32 : 32 ≤ a) (h8 : ch ≤ 8) (ht : tn ≤ 60) (hpe : pe ≤ 200) (hcn : cn ≤ 61) (hg : GOK G K) (hK : K + 61 ≤ 1000) (hL : (wb = false ∧ ¬ pe < tn) → cn ≤ 59 ∧ ∀ i, i < cn → ∃ j, j < 6 ∧ Pa (7 * i) = ltr j) (kA : (wb = true ∨ pe < tn) → ∀ f Mo Pa9 sp wr, MdP f a G B H Sv Bu Le Mo Pa9 (nI ch) sv 0 (nI pe) fa ol 1 sp wr → Fr h.1 f a (a + 9) → Q (.inl (some (.int 0))) (f, h.2)) (kB : (wb = false ∧ ¬ pe < tn) → ∀ i, (exR Pa cn 0 G).1 = some i → ∀ f Mo Pa9 sp wr, MdP f a G G H Sv Bu Le Mo Pa9 (nI ch) sv 0 ea (nI i) ol 2 sp wr → Fr h.1 f a (a + 9) → Q (.inl (some (.int 0))) (f, h.2)) (kC : (wb = false ∧ ¬ pe < tn) → (exR Pa cn 0 G).1 = none → ∀ f Mo Pa9 sp wr, MdP f a (exR Pa cn 0 G).2 G (psh ch H G) Sv Bu Le Mo Pa9 (nI (min (ch + 1) 8)) sv 0 ea fa ol 0 sp wr → Fr h.1 f a (a + 9) → Q (.inl (some (.int (nI cn)))) (f, h.2)) : xP S (d + 6) 231 72 [(0, .ref a), (1, .int (nI cn))] [] h Q := by
  obtain ⟨o0, g0, b0, H0, Sv0, Bu0, Le0, Mo0, Pa0⟩ := id hM
  refine xs_f 73 r_231_72 rfl ?_
  refine xs_f 74 r_231_73 rfl ?_
  refine xs_get 77 r_231_74 rfl rfl (by first | assumption | exact o0) (by rfl) ?_
  refine xs_if 80 91 r_231_77 rfl (fun hw => ?_) (fun hw => ?_)
  · have hw2 := (bI_0 _).mp hw
    refine xs_f 81 r_231_80 rfl ?_
    refine xs_get 84 r_231_81 rfl rfl (by first | assumption | exact o0) (by rfl) ?_
    refine xs_f 85 r_231_84 rfl ?_
    refine xs_get 88 r_231_85 rfl rfl (by first | assumption | exact o0) (by rfl) ?_
    refine xs_if 95 91 r_231_88 rfl (fun hp => ?_) (fun hp => ?_)
    · have hp := (nI_leN rfl rfl (by omega) (by omega)).mp hp
      refine xs_f 96 r_231_95 rfl ?_
      refine xs_putC 99 r_231_96 rfl o0 (by rfl) (by rfl) (fun f1 o1 y1 => ?_)
      have g2 := g0.fr (y1 _ (by omega))
      have b3 := b0.fr (y1 _ (by omega))
      have H4 := H0.fr (y1 _ (by omega))
      have Sv5 := Sv0.fr (y1 _ (by omega))
      have Bu6 := Bu0.fr (y1 _ (by omega))
      have Le7 := Le0.fr (y1 _ (by omega))
      have Mo8 := Mo0.fr (y1 _ (by omega))
      have Pa9 := Pa0.fr (y1 _ (by omega))
      have Y10 := (Fr.rf : Fr h.1 h.1 a (a + 9)).tr (y1.wd (by omega) (by omega))
      refine xs_f 100 r_231_99 rfl ?_
      refine xs_f 101 r_231_100 rfl ?_
      refine xs_putC 104 r_231_101 rfl o1 (by rfl) (by rfl) (fun f11 o11 y11 => ?_)
      have g12 := g2.fr (y11 _ (by omega))
      have b13 := b3.fr (y11 _ (by omega))
      have H14 := H4.fr (y11 _ (by omega))
      have Sv15 := Sv5.fr (y11 _ (by omega))
      have Bu16 := Bu6.fr (y11 _ (by omega))
      have Le17 := Le7.fr (y11 _ (by omega))
      have Mo18 := Mo8.fr (y11 _ (by omega))
      have Pa19 := Pa9.fr (y11 _ (by omega))
      have Y20 := Y10.tr (y11.wd (by omega) (by omega))
      refine xs_f 105 r_231_104 rfl ?_
      refine xs_get 108 r_231_105 rfl rfl (by first | assumption | exact o11) (by rfl) ?_
      refine xs_f 125 r_231_108 rfl ?_
      have hgood : (wb = false ∧ ¬ pe < tn) := ⟨hw2, by omega⟩
      refine xs_f 126 r_231_125 rfl ?_
      refine xs_call (lv2 := [(0, _)]) r_231_126 rfl rfl (by decide) (xcan_0 rfl rfl (by first | assumption | exact o11) (by rfl)) rfl (m_155 o11 g12 b13 h32 (fun f21 b21 y21 => ?_))
      have o22 := (y21 _ (by omega)).trans o11
      have g23 := g12.fr (y21 _ (by omega))
      have H24 := H14.fr (y21 _ (by omega))
      have Sv25 := Sv15.fr (y21 _ (by omega))
      have Bu26 := Bu16.fr (y21 _ (by omega))
      have Le27 := Le17.fr (y21 _ (by omega))
      have Mo28 := Mo18.fr (y21 _ (by omega))
      have Pa29 := Pa19.fr (y21 _ (by omega))
      have Y30 := Y20.tr (y21.wd (by omega) (by omega))
      refine xK_0 rfl ?_
      refine xs_f 130 r_231_129 rfl ?_
      refine xs_f 131 (lv2 := [(3, _), (0, _), (1, _)]) r_231_130 rfl ?_
      exact xP_lv [(0, .ref a), (1, .int (nI cn)), (3, .int (nI 0))] rfl ⟨rfl, rfl, rfl, trivial⟩ (ml_231c (h := h) h32 h8 (hL hgood).1 (hL hgood).2 (fun i hi f Mo m y => kB hgood i hi f Mo _ _ _ m y) (fun hi f Mo m y => kC hgood hi f Mo _ _ _ m y) (cn + 1) cn 0 G _ _ K _ (by omega) rfl (by omega) hg (by omega) ⟨o22, g23, b21, H24, Sv25, Bu26, Le27, Mo28, Pa29⟩ Y30)
    · have hp := mt (nI_leN rfl rfl (by omega) (by omega)).mpr hp
      refine xs_f 92 r_231_91 rfl ?_
      refine xs_f 96 r_231_92 rfl ?_
      refine xs_putC 99 r_231_96 rfl o0 (by rfl) (by rfl) (fun f31 o31 y31 => ?_)
      have g32 := g0.fr (y31 _ (by omega))
      have b33 := b0.fr (y31 _ (by omega))
      have H34 := H0.fr (y31 _ (by omega))
      have Sv35 := Sv0.fr (y31 _ (by omega))
      have Bu36 := Bu0.fr (y31 _ (by omega))
      have Le37 := Le0.fr (y31 _ (by omega))
      have Mo38 := Mo0.fr (y31 _ (by omega))
      have Pa39 := Pa0.fr (y31 _ (by omega))
      have Y40 := (Fr.rf : Fr h.1 h.1 a (a + 9)).tr (y31.wd (by omega) (by omega))
      refine xs_f 100 r_231_99 rfl ?_
      refine xs_f 101 r_231_100 rfl ?_
      refine xs_putC 104 r_231_101 rfl o31 (by rfl) (by rfl) (fun f41 o41 y41 => ?_)
      have g42 := g32.fr (y41 _ (by omega))
      have b43 := b33.fr (y41 _ (by omega))
      have H44 := H34.fr (y41 _ (by omega))
      have Sv45 := Sv35.fr (y41 _ (by omega))
      have Bu46 := Bu36.fr (y41 _ (by omega))
      have Le47 := Le37.fr (y41 _ (by omega))
      have Mo48 := Mo38.fr (y41 _ (by omega))
      have Pa49 := Pa39.fr (y41 _ (by omega))
      have Y50 := Y40.tr (y41.wd (by omega) (by omega))
      refine xs_f 105 r_231_104 rfl ?_
      refine xs_get 108 r_231_105 rfl rfl (by first | assumption | exact o41) (by rfl) ?_
      refine xs_f 111 r_231_108 rfl ?_
      have hbad : (wb = true ∨ pe < tn) := by first | exact Or.inl hw2 | exact Or.inr (by omega)
      refine xs_f 112 r_231_111 rfl ?_
      refine xs_f 113 r_231_112 rfl ?_
      refine xs_get 116 r_231_113 rfl rfl (by first | assumption | exact o41) (by rfl) ?_
      refine xs_putC 119 r_231_116 rfl o41 (by rfl) (by rfl) (fun f51 o51 y51 => ?_)
      have g52 := g42.fr (y51 _ (by omega))
      have b53 := b43.fr (y51 _ (by omega))
      have H54 := H44.fr (y51 _ (by omega))
      have Sv55 := Sv45.fr (y51 _ (by omega))
      have Bu56 := Bu46.fr (y51 _ (by omega))
      have Le57 := Le47.fr (y51 _ (by omega))
      have Mo58 := Mo48.fr (y51 _ (by omega))
      have Pa59 := Pa49.fr (y51 _ (by omega))
      have Y60 := Y50.tr (y51.wd (by omega) (by omega))
      refine xs_f 120 r_231_119 rfl ?_
      refine xs_f 121 r_231_120 rfl ?_
      refine xs_call (lv2 := [(0, _), (1, _)]) r_231_121 rfl rfl (by decide) (xcan_0 rfl rfl (by first | assumption | exact o51) (by rfl)) rfl ?_
      refine xs_f 1 r_153_0 rfl ?_
      refine xs_f 2 r_153_1 rfl ?_
      refine xs_putC 5 r_153_2 rfl o51 (by rfl) (by rfl) (fun f61 o61 y61 => ?_)
      have g62 := g52.fr (y61 _ (by omega))
      have b63 := b53.fr (y61 _ (by omega))
      have H64 := H54.fr (y61 _ (by omega))
      have Sv65 := Sv55.fr (y61 _ (by omega))
      have Bu66 := Bu56.fr (y61 _ (by omega))
      have Le67 := Le57.fr (y61 _ (by omega))
      have Mo68 := Mo58.fr (y61 _ (by omega))
      have Pa69 := Pa59.fr (y61 _ (by omega))
      have Y70 := Y60.tr (y61.wd (by omega) (by omega))
      refine xs_f 6 r_153_5 rfl ?_
      refine xs_ret r_153_6 rfl ?_
      refine xK_v rfl ?_
      refine xs_ret r_231_124 rfl ?_
      exact kA hbad _ _ _ _ _ ⟨o61, g62, b63, H64, Sv65, Bu66, Le67, Mo68, Pa69⟩ Y70
  · have hw2 := bI_n0 hw
    refine xs_f 92 r_231_91 rfl ?_
    refine xs_f 96 r_231_92 rfl ?_
    refine xs_putC 99 r_231_96 rfl o0 (by rfl) (by rfl) (fun f71 o71 y71 => ?_)
    have g72 := g0.fr (y71 _ (by omega))
    have b73 := b0.fr (y71 _ (by omega))
    have H74 := H0.fr (y71 _ (by omega))
    have Sv75 := Sv0.fr (y71 _ (by omega))
    have Bu76 := Bu0.fr (y71 _ (by omega))
    have Le77 := Le0.fr (y71 _ (by omega))
    have Mo78 := Mo0.fr (y71 _ (by omega))
    have Pa79 := Pa0.fr (y71 _ (by omega))
    have Y80 := (Fr.rf : Fr h.1 h.1 a (a + 9)).tr (y71.wd (by omega) (by omega))
    refine xs_f 100 r_231_99 rfl ?_
    refine xs_f 101 r_231_100 rfl ?_
    refine xs_putC 104 r_231_101 rfl o71 (by rfl) (by rfl) (fun f81 o81 y81 => ?_)
    have g82 := g72.fr (y81 _ (by omega))
    have b83 := b73.fr (y81 _ (by omega))
    have H84 := H74.fr (y81 _ (by omega))
    have Sv85 := Sv75.fr (y81 _ (by omega))
    have Bu86 := Bu76.fr (y81 _ (by omega))
    have Le87 := Le77.fr (y81 _ (by omega))
    have Mo88 := Mo78.fr (y81 _ (by omega))
    have Pa89 := Pa79.fr (y81 _ (by omega))
    have Y90 := Y80.tr (y81.wd (by omega) (by omega))
    refine xs_f 105 r_231_104 rfl ?_
    refine xs_get 108 r_231_105 rfl rfl (by first | assumption | exact o81) (by rfl) ?_
    refine xs_f 111 r_231_108 rfl ?_
    have hbad : (wb = true ∨ pe < tn) := by first | exact Or.inl hw2 | exact Or.inr (by omega)
    refine xs_f 112 r_231_111 rfl ?_
    refine xs_f 113 r_231_112 rfl ?_
    refine xs_get 116 r_231_113 rfl rfl (by first | assumption | exact o81) (by rfl) ?_
    refine xs_putC 119 r_231_116 rfl o81 (by rfl) (by rfl) (fun f91 o91 y91 => ?_)
    have g92 := g82.fr (y91 _ (by omega))
    have b93 := b83.fr (y91 _ (by omega))
    have H94 := H84.fr (y91 _ (by omega))
    have Sv95 := Sv85.fr (y91 _ (by omega))
    have Bu96 := Bu86.fr (y91 _ (by omega))
    have Le97 := Le87.fr (y91 _ (by omega))
    have Mo98 := Mo88.fr (y91 _ (by omega))
    have Pa99 := Pa89.fr (y91 _ (by omega))
    have Y100 := Y90.tr (y91.wd (by omega) (by omega))
    refine xs_f 120 r_231_119 rfl ?_
    refine xs_f 121 r_231_120 rfl ?_
    refine xs_call (lv2 := [(0, _), (1, _)]) r_231_121 rfl rfl (by decide) (xcan_0 rfl rfl (by first | assumption | exact o91) (by rfl)) rfl ?_
    refine xs_f 1 r_153_0 rfl ?_
    refine xs_f 2 r_153_1 rfl ?_
    refine xs_putC 5 r_153_2 rfl o91 (by rfl) (by rfl) (fun f101 o101 y101 => ?_)
    have g102 := g92.fr (y101 _ (by omega))
    have b103 := b93.fr (y101 _ (by omega))
    have H104 := H94.fr (y101 _ (by omega))
    have Sv105 := Sv95.fr (y101 _ (by omega))
    have Bu106 := Bu96.fr (y101 _ (by omega))
    have Le107 := Le97.fr (y101 _ (by omega))
    have Mo108 := Mo98.fr (y101 _ (by omega))
    have Pa109 := Pa99.fr (y101 _ (by omega))
    have Y110 := Y100.tr (y101.wd (by omega) (by omega))
    refine xs_f 6 r_153_5 rfl ?_
    refine xs_ret r_153_6 rfl ?_
    refine xK_v rfl ?_
    refine xs_ret r_231_124 rfl ?_
    exact kA hbad _ _ _ _ _ ⟨o101, g102, b103, H104, Sv105, Bu106, Le107, Mo108, Pa109⟩ Y110

theorem m_231 {S : XSc} {d : Nat} {h : XH} {Q : XO → XH → Prop} {a tn : Nat} {G B H Sv Bu Le Mo Pa : Nat → Int32} {ch : Nat} {sv ea fa ol th sp wr : Int32} {K : Nat} (hM : MdP h.1 a G B H Sv Bu Le Mo Pa (nI ch) sv (nI tn) ea fa ol th sp wr) (h32 : 32 ≤ a) (h8 : ch ≤ 8) (ht : tn ≤ 60) (hg : GOK G K) (hK : K + 61 ≤ 1000) (hL : ((prM Bu tn 61 0 0 Pa).2.2.2 = false ∧ ¬ (prM Bu tn 61 0 0 Pa).2.2.1 < tn) → (prM Bu tn 61 0 0 Pa).1 ≤ 59 ∧ ∀ i, i < (prM Bu tn 61 0 0 Pa).1 → ∃ j, j < 6 ∧ (prM Bu tn 61 0 0 Pa).2.1 (7 * i) = ltr j) (kA : ((prM Bu tn 61 0 0 Pa).2.2.2 = true ∨ (prM Bu tn 61 0 0 Pa).2.2.1 < tn) → ∀ f Mo Pa9 sp wr, MdP f a G B H Sv Bu Le Mo Pa9 (nI ch) sv 0 (nI (prM Bu tn 61 0 0 Pa).2.2.1) fa ol 1 sp wr → Fr h.1 f a (a + 9) → Q (.inl (some (.int 0))) (f, h.2)) (kB : ((prM Bu tn 61 0 0 Pa).2.2.2 = false ∧ ¬ (prM Bu tn 61 0 0 Pa).2.2.1 < tn) → ∀ i, (exR (prM Bu tn 61 0 0 Pa).2.1 (prM Bu tn 61 0 0 Pa).1 0 G).1 = some i → ∀ f Mo Pa9 sp wr, MdP f a G G H Sv Bu Le Mo Pa9 (nI ch) sv 0 ea (nI i) ol 2 sp wr → Fr h.1 f a (a + 9) → Q (.inl (some (.int 0))) (f, h.2)) (kC : ((prM Bu tn 61 0 0 Pa).2.2.2 = false ∧ ¬ (prM Bu tn 61 0 0 Pa).2.2.1 < tn) → (exR (prM Bu tn 61 0 0 Pa).2.1 (prM Bu tn 61 0 0 Pa).1 0 G).1 = none → ∀ f Mo Pa9 sp wr, MdP f a (exR (prM Bu tn 61 0 0 Pa).2.1 (prM Bu tn 61 0 0 Pa).1 0 G).2 G (psh ch H G) Sv Bu Le Mo Pa9 (nI (min (ch + 1) 8)) sv 0 ea fa ol 0 sp wr → Fr h.1 f a (a + 9) → Q (.inl (some (.int (nI (prM Bu tn 61 0 0 Pa).1)))) (f, h.2)) : xP S (d + 6) 231 0 [(0, .ref a)] [] h Q := by
  obtain ⟨o0, g0, b0, H0, Sv0, Bu0, Le0, Mo0, Pa0⟩ := id hM
  refine xs_f 1 r_231_0 rfl ?_
  refine xs_f 2 r_231_1 rfl ?_
  refine xs_putC 5 r_231_2 rfl o0 (by rfl) (by rfl) (fun f1 o1 y1 => ?_)
  have g2 := g0.fr (y1 _ (by omega))
  have b3 := b0.fr (y1 _ (by omega))
  have H4 := H0.fr (y1 _ (by omega))
  have Sv5 := Sv0.fr (y1 _ (by omega))
  have Bu6 := Bu0.fr (y1 _ (by omega))
  have Le7 := Le0.fr (y1 _ (by omega))
  have Mo8 := Mo0.fr (y1 _ (by omega))
  have Pa9 := Pa0.fr (y1 _ (by omega))
  have Y10 := (Fp8.rf : Fp8 h.1 h.1 a).w y1 (by omega)
  refine xs_f 6 r_231_5 rfl ?_
  refine xs_f 7 r_231_6 rfl ?_
  refine xs_putC 10 r_231_7 rfl o1 (by rfl) (by rfl) (fun f11 o11 y11 => ?_)
  have g12 := g2.fr (y11 _ (by omega))
  have b13 := b3.fr (y11 _ (by omega))
  have H14 := H4.fr (y11 _ (by omega))
  have Sv15 := Sv5.fr (y11 _ (by omega))
  have Bu16 := Bu6.fr (y11 _ (by omega))
  have Le17 := Le7.fr (y11 _ (by omega))
  have Mo18 := Mo8.fr (y11 _ (by omega))
  have Pa19 := Pa9.fr (y11 _ (by omega))
  have Y20 := Y10.w y11 (by omega)
  refine xs_f 11 r_231_10 rfl ?_
  refine xs_f 12 (lv2 := [(1, _), (0, _)]) r_231_11 rfl ?_
  refine xs_f 13 r_231_12 rfl ?_
  refine xs_f 14 (lv2 := [(2, _), (1, _), (0, _)]) r_231_13 rfl ?_
  exact xP_lv [(0, .ref a), (1, .int (nI 0)), (2, .int 1)] rfl ⟨rfl, rfl, rfl, trivial⟩ (ml_231a (h := h) Bu0 h32 ht (fun f o p F hc hp => m_231b (h := (f, h.2)) ⟨o, g0.fr (F _ (by omega)), b0.fr (F _ (by omega)), H0.fr (F _ (by omega)), Sv0.fr (F _ (by omega)), Bu0.fr (F _ (by omega)), Le0.fr (F _ (by omega)), Mo0.fr (F _ (by omega)), p⟩ h32 h8 ht hp hc hg hK hL (fun z f2 Mo P9 sp wr m y => kA z f2 Mo P9 sp wr m ((F.wd (Nat.le_refl _) (Nat.le_refl _)).tr y)) (fun z i hi f2 Mo P9 sp wr m y => kB z i hi f2 Mo P9 sp wr m ((F.wd (Nat.le_refl _) (Nat.le_refl _)).tr y)) (fun z hi f2 Mo P9 sp wr m y => kC z hi f2 Mo P9 sp wr m ((F.wd (Nat.le_refl _) (Nat.le_refl _)).tr y))) 62 61 0 0 Pa _ (by omega) rfl (Nat.zero_le _) (Nat.zero_le _) (by omega) o11 Pa19 Y20)

