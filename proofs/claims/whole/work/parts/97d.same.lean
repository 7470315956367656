/-! class and reference read the same -/
def sR (s : XPs) (t : Nat × Bool) (i : Nat) (x : Nat → Int32) : Prop := t = (s.2.1, !s.1) ∧ (s.1 = true → s.2.2 = (i, x))
theorem stF_0 {Bu : Nat → Int32} {n : Nat} {s : XPs} {ch : Int32} (h : s.1 = false) : stF Bu n s ch = s := by
  unfold stF
  rw [h, cond_false]
theorem hrM_ch {Bu : Nat → Int32} {n p : Nat} {ch : Int32} (hc : ch ≠ -1) : hrM Bu n p = ch ↔ p < n ∧ Bu p = ch := by
  unfold hrM
  by_cases z : p < n
  · rw [if_pos z]; exact ⟨fun h => ⟨z, h⟩, fun h => h.2⟩
  · rw [if_neg z]; exact ⟨fun h => absurd h.symm hc, fun h => absurd h.1 z⟩
theorem sR.nd {Bu : Nat → Int32} {n : Nat} {s : XPs} {t : Nat × Bool} {i : Nat} {x : Nat → Int32} (h : sR s t i x) {ch : Int32} (hd : ¬ dgt ch) (hc : ch ≠ -1) : sR (stF Bu n s ch) (ndM Bu n ch t) i x := by
  obtain ⟨h1, h2⟩ := h
  subst h1
  cases hs : s.1 with
  | false =>
    rw [stF_0 hs]
    refine ⟨?_, fun z => absurd z (by rw [hs]; decide)⟩
    unfold ndM
    rw [hs]
    rfl
  | true =>
    by_cases z : s.2.1 < n ∧ Bu s.2.1 = ch
    · rw [stF_s hs hd z.1 z.2]
      refine ⟨?_, fun _ => h2 hs⟩
      show ndM Bu n ch (s.2.1, !true) = _
      unfold ndM
      show (if hrM Bu n s.2.1 = ch then ((s.2.1 + 1, false) : Nat × Bool) else (s.2.1, true)) = _
      rw [if_pos ((hrM_ch hc).mpr z)]
      rfl
    · rw [stF_n hs hd z]
      refine ⟨?_, fun y => (nomatch y)⟩
      show ndM Bu n ch (s.2.1, !true) = _
      unfold ndM
      show (if hrM Bu n s.2.1 = ch then ((s.2.1 + 1, false) : Nat × Bool) else (s.2.1, true)) = _
      rw [if_neg (fun y => z ((hrM_ch hc).mp y))]
      rfl
theorem dgc_1 {Bu : Nat → Int32} {n p : Nat} : ∀ m, 0 < dgc Bu n p (m + 1) ↔ p < n ∧ dgt (Bu p)
  | 0 => by
    show 0 < (if (0 : Nat) = 0 ∧ p + 0 < n ∧ dgt (Bu (p + 0)) then 0 + 1 else 0) ↔ _
    by_cases z : p < n ∧ dgt (Bu p)
    · rw [if_pos ⟨rfl, z.1, z.2⟩]; exact ⟨fun _ => z, fun _ => by omega⟩
    · rw [if_neg (fun y => z y.2)]; exact ⟨fun y => by omega, fun y => absurd y z⟩
  | m + 1 => by
    have ih := dgc_1 (Bu := Bu) (n := n) (p := p) m
    show 0 < (if dgc Bu n p (m + 1) = m + 1 ∧ p + (m + 1) < n ∧ dgt (Bu (p + (m + 1))) then m + 1 + 1 else dgc Bu n p (m + 1)) ↔ _
    split
    · rename_i z
      exact ⟨fun _ => ih.mp (by omega), fun _ => by omega⟩
    · exact ih
theorem sR.dg {Bu : Nat → Int32} {n : Nat} {s : XPs} {t : Nat × Bool} {i : Nat} {x : Nat → Int32} (h : sR s t i x) {ch : Int32} {m : Nat} (hd : dgt ch) (hm : (ch - 48).toNatClampNeg = m + 1) (h6 : i < 6) : sR (stF Bu n s ch) (dgM Bu n (m + 1) t).2 (i + 1) (xw x i (dgM Bu n (m + 1) t).1) := by
  obtain ⟨h1, h2⟩ := h
  subst h1
  cases hs : s.1 with
  | false =>
    rw [stF_0 hs]
    refine ⟨?_, fun z => absurd z (by rw [hs]; decide)⟩
    unfold dgM
    rw [if_neg (fun z => absurd (show true = false from z.1) (by decide)), hs]
    rfl
  | true =>
    have e2 := h2 hs
    by_cases z : s.2.1 < n ∧ dgt (Bu s.2.1)
    · have ed : dgM Bu n (m + 1) (s.2.1, !true) = (dv Bu s.2.1 (dgc Bu n s.2.1 (m + 1)), (s.2.1 + dgc Bu n s.2.1 (m + 1), false)) := if_pos ⟨rfl, z⟩
      rw [ed]
      have es : stF Bu n s ch = (true, (s.2.1 + dgc Bu n s.2.1 (m + 1), (s.2.2.1 + 1, xw s.2.2.2 s.2.2.1 (dv Bu s.2.1 (dgc Bu n s.2.1 (m + 1)))))) := by
        unfold stF
        rw [hs, cond_true, if_pos hd, hm, if_pos ⟨(dgc_1 m).mpr z, by rw [e2]; exact h6⟩]
      rw [es, e2]
      exact ⟨rfl, fun _ => rfl⟩
    · have ed : dgM Bu n (m + 1) (s.2.1, !true) = (0, (s.2.1, true)) := if_neg (fun y => z y.2)
      rw [ed]
      have e0 : dgc Bu n s.2.1 (m + 1) = 0 := by
        have := mt (dgc_1 (Bu := Bu) (n := n) (p := s.2.1) m).mp z
        omega
      have es : stF Bu n s ch = (false, (s.2.1 + 0, s.2.2)) := by
        unfold stF
        rw [hs, cond_true, if_pos hd, hm, e0, if_neg (fun y => absurd y.1 (Nat.lt_irrefl 0))]
      rw [es]
      exact ⟨rfl, fun y => (nomatch y)⟩
theorem rdF_1 {Bu : Nat → Int32} {n p m : Nat} {F nu : Nat → Int32} (hd : ¬ dgt (F 0)) (h : ¬ (p < n ∧ Bu p = F 0)) : rdF Bu n F (true, (p, (0, nu))) (m + 1) = (false, (p, (0, nu))) := by
  have e : rdF Bu n F (true, (p, (0, nu))) 1 = (false, (p, (0, nu))) := stF_n rfl hd h
  rw [rdF_f (i := 1) (by rw [e]) (m + 1) (by omega), e]
theorem rdF_2 {Bu : Nat → Int32} {n p m : Nat} {F nu : Nat → Int32} (hd : ¬ dgt (F 0)) (h : p < n ∧ Bu p = F 0) (hd1 : ¬ dgt (F 1)) (h1 : ¬ (p + 1 < n ∧ Bu (p + 1) = F 1)) : rdF Bu n F (true, (p, (0, nu))) (m + 2) = (false, (p + 1, (0, nu))) := by
  have e0 : rdF Bu n F (true, (p, (0, nu))) 1 = (true, (p + 1, (0, nu))) := stF_s rfl hd h.1 h.2
  have e : rdF Bu n F (true, (p, (0, nu))) 2 = (false, (p + 1, (0, nu))) := by
    show stF Bu n (rdF Bu n F (true, (p, (0, nu))) 1) (F 1) = _
    rw [e0]
    exact stF_n rfl hd1 h1
  rw [rdF_f (i := 2) (by rw [e]) (m + 2) (by omega), e]
theorem ndM_hit {Bu : Nat → Int32} {n p : Nat} {ch : Int32} (h : hrM Bu n p = ch) : ndM Bu n ch (p, false) = (p + 1, false) := if_pos h
theorem rd1_f0 {Bu : Nat → Int32} {n p : Nat} {nu : Nat → Int32} (h : hrM Bu n p ≠ 112) : rd1 Bu n p 0 nu = (false, (p, (0, nu))) := rdF_1 (m := 5) (by decide +kernel) (fun z => h ((hrM_ch (by decide)).mpr z))
theorem rd1_f1 {Bu : Nat → Int32} {n p : Nat} {nu : Nat → Int32} (h : hrM Bu n p ≠ 111) : rd1 Bu n p 1 nu = (false, (p, (0, nu))) := rdF_1 (m := 5) (by decide +kernel) (fun z => h ((hrM_ch (by decide)).mpr z))
theorem rd1_f2 {Bu : Nat → Int32} {n p : Nat} {nu : Nat → Int32} (h : hrM Bu n p ≠ 98) : rd1 Bu n p 2 nu = (false, (p, (0, nu))) := rdF_1 (m := 14) (by decide +kernel) (fun z => h ((hrM_ch (by decide)).mpr z))
theorem rd1_f3 {Bu : Nat → Int32} {n p : Nat} {nu : Nat → Int32} (h : hrM Bu n p ≠ 115) : rd1 Bu n p 3 nu = (false, (p, (0, nu))) := rdF_1 (m := 7) (by decide +kernel) (fun z => h ((hrM_ch (by decide)).mpr z))
theorem rd1_f4 {Bu : Nat → Int32} {n p : Nat} {nu : Nat → Int32} (h : hrM Bu n p ≠ 108) : rd1 Bu n p 4 nu = (false, (p, (0, nu))) := rdF_1 (m := 4) (by decide +kernel) (fun z => h ((hrM_ch (by decide)).mpr z))
theorem rd1_f5 {Bu : Nat → Int32} {n p : Nat} {nu : Nat → Int32} (h : hrM Bu n p ≠ 111) : rd1 Bu n p 5 nu = (false, (p, (0, nu))) := rdF_1 (m := 4) (by decide +kernel) (fun z => h ((hrM_ch (by decide)).mpr z))
theorem rd1_g1 {Bu : Nat → Int32} {n p : Nat} {nu : Nat → Int32} (h : hrM Bu n p = 111) (h1 : hrM Bu n (p + 1) ≠ 112) : rd1 Bu n p 1 nu = (false, (p + 1, (0, nu))) := rdF_2 (m := 4) (by decide +kernel) ((hrM_ch (by decide)).mp h) (by decide +kernel) (fun z => h1 ((hrM_ch (by decide)).mpr z))
theorem rd1_g5 {Bu : Nat → Int32} {n p : Nat} {nu : Nat → Int32} (h : hrM Bu n p = 111) (h1 : hrM Bu n (p + 1) ≠ 117) : rd1 Bu n p 5 nu = (false, (p + 1, (0, nu))) := rdF_2 (m := 3) (by decide +kernel) ((hrM_ch (by decide)).mp h) (by decide +kernel) (fun z => h1 ((hrM_ch (by decide)).mpr z))
theorem rd1_k0 {Bu : Nat → Int32} {tn pn : Nat} {nu : Nat → Int32} (e : hrM Bu tn pn = 112) : sR (rd1 Bu tn pn 0 nu) (ndM Bu tn 114 (ndM Bu tn 101 (ndM Bu tn 121 (ndM Bu tn 97 (ndM Bu tn 108 (pn + 1, false)))))) 0 nu := by
  have k0 : sR (stF Bu tn (true, (pn, (0, nu))) 112) (pn + 1, false) 0 nu := by
    rw [← ndM_hit e]
    exact sR.nd ⟨rfl, fun _ => rfl⟩ (by decide) (by decide)
  have k1 := k0.nd (Bu := Bu) (n := tn) (ch := 108) (by decide) (by decide)
  have k2 := k1.nd (Bu := Bu) (n := tn) (ch := 97) (by decide) (by decide)
  have k3 := k2.nd (Bu := Bu) (n := tn) (ch := 121) (by decide) (by decide)
  have k4 := k3.nd (Bu := Bu) (n := tn) (ch := 101) (by decide) (by decide)
  have k5 := k4.nd (Bu := Bu) (n := tn) (ch := 114) (by decide) (by decide)
  exact k5
theorem rd1_k1 {Bu : Nat → Int32} {tn pn : Nat} {nu : Nat → Int32} (e : hrM Bu tn pn = 111) : sR (rd1 Bu tn pn 1 nu) (daM Bu tn 32 1 (ndM Bu tn 110 (ndM Bu tn 101 (ndM Bu tn 112 (pn + 1, false))))).2 1 (xw nu 0 (daM Bu tn 32 1 (ndM Bu tn 110 (ndM Bu tn 101 (ndM Bu tn 112 (pn + 1, false))))).1) := by
  have k0 : sR (stF Bu tn (true, (pn, (0, nu))) 111) (pn + 1, false) 0 nu := by
    rw [← ndM_hit e]
    exact sR.nd ⟨rfl, fun _ => rfl⟩ (by decide) (by decide)
  have k1 := k0.nd (Bu := Bu) (n := tn) (ch := 112) (by decide) (by decide)
  have k2 := k1.nd (Bu := Bu) (n := tn) (ch := 101) (by decide) (by decide)
  have k3 := k2.nd (Bu := Bu) (n := tn) (ch := 110) (by decide) (by decide)
  have k4 := (k3.nd (Bu := Bu) (n := tn) (ch := 32) (by decide) (by decide)).dg (Bu := Bu) (n := tn) (ch := 49) (m := 0) (by decide) (by decide) (by decide)
  exact k4
theorem rd1_k2 {Bu : Nat → Int32} {tn pn : Nat} {nu : Nat → Int32} (e : hrM Bu tn pn = 98) : sR (rd1 Bu tn pn 2 nu) (daM Bu tn 32 2 (daM Bu tn 32 1 (daM Bu tn 45 3 (daM Bu tn 32 3 (daM Bu tn 32 2 (daM Bu tn 32 1 (ndM Bu tn 116 (ndM Bu tn 101 (pn + 1, false)))).2).2).2).2).2).2 6 (xw (xw (xw (xw (xw (xw nu 0 (daM Bu tn 32 1 (ndM Bu tn 116 (ndM Bu tn 101 (pn + 1, false)))).1) 1 (daM Bu tn 32 2 (daM Bu tn 32 1 (ndM Bu tn 116 (ndM Bu tn 101 (pn + 1, false)))).2).1) 2 (daM Bu tn 32 3 (daM Bu tn 32 2 (daM Bu tn 32 1 (ndM Bu tn 116 (ndM Bu tn 101 (pn + 1, false)))).2).2).1) 3 (daM Bu tn 45 3 (daM Bu tn 32 3 (daM Bu tn 32 2 (daM Bu tn 32 1 (ndM Bu tn 116 (ndM Bu tn 101 (pn + 1, false)))).2).2).2).1) 4 (daM Bu tn 32 1 (daM Bu tn 45 3 (daM Bu tn 32 3 (daM Bu tn 32 2 (daM Bu tn 32 1 (ndM Bu tn 116 (ndM Bu tn 101 (pn + 1, false)))).2).2).2).2).1) 5 (daM Bu tn 32 2 (daM Bu tn 32 1 (daM Bu tn 45 3 (daM Bu tn 32 3 (daM Bu tn 32 2 (daM Bu tn 32 1 (ndM Bu tn 116 (ndM Bu tn 101 (pn + 1, false)))).2).2).2).2).2).1) := by
  have k0 : sR (stF Bu tn (true, (pn, (0, nu))) 98) (pn + 1, false) 0 nu := by
    rw [← ndM_hit e]
    exact sR.nd ⟨rfl, fun _ => rfl⟩ (by decide) (by decide)
  have k1 := k0.nd (Bu := Bu) (n := tn) (ch := 101) (by decide) (by decide)
  have k2 := k1.nd (Bu := Bu) (n := tn) (ch := 116) (by decide) (by decide)
  have k3 := (k2.nd (Bu := Bu) (n := tn) (ch := 32) (by decide) (by decide)).dg (Bu := Bu) (n := tn) (ch := 49) (m := 0) (by decide) (by decide) (by decide)
  have k4 := (k3.nd (Bu := Bu) (n := tn) (ch := 32) (by decide) (by decide)).dg (Bu := Bu) (n := tn) (ch := 50) (m := 1) (by decide) (by decide) (by decide)
  have k5 := (k4.nd (Bu := Bu) (n := tn) (ch := 32) (by decide) (by decide)).dg (Bu := Bu) (n := tn) (ch := 51) (m := 2) (by decide) (by decide) (by decide)
  have k6 := (k5.nd (Bu := Bu) (n := tn) (ch := 45) (by decide) (by decide)).dg (Bu := Bu) (n := tn) (ch := 51) (m := 2) (by decide) (by decide) (by decide)
  have k7 := (k6.nd (Bu := Bu) (n := tn) (ch := 32) (by decide) (by decide)).dg (Bu := Bu) (n := tn) (ch := 49) (m := 0) (by decide) (by decide) (by decide)
  have k8 := (k7.nd (Bu := Bu) (n := tn) (ch := 32) (by decide) (by decide)).dg (Bu := Bu) (n := tn) (ch := 50) (m := 1) (by decide) (by decide) (by decide)
  exact k8
theorem rd1_k3 {Bu : Nat → Int32} {tn pn : Nat} {nu : Nat → Int32} (e : hrM Bu tn pn = 115) : sR (rd1 Bu tn pn 3 nu) (daM Bu tn 32 3 (ndM Bu tn 101 (ndM Bu tn 108 (ndM Bu tn 116 (ndM Bu tn 116 (ndM Bu tn 101 (pn + 1, false))))))).2 1 (xw nu 0 (daM Bu tn 32 3 (ndM Bu tn 101 (ndM Bu tn 108 (ndM Bu tn 116 (ndM Bu tn 116 (ndM Bu tn 101 (pn + 1, false))))))).1) := by
  have k0 : sR (stF Bu tn (true, (pn, (0, nu))) 115) (pn + 1, false) 0 nu := by
    rw [← ndM_hit e]
    exact sR.nd ⟨rfl, fun _ => rfl⟩ (by decide) (by decide)
  have k1 := k0.nd (Bu := Bu) (n := tn) (ch := 101) (by decide) (by decide)
  have k2 := k1.nd (Bu := Bu) (n := tn) (ch := 116) (by decide) (by decide)
  have k3 := k2.nd (Bu := Bu) (n := tn) (ch := 116) (by decide) (by decide)
  have k4 := k3.nd (Bu := Bu) (n := tn) (ch := 108) (by decide) (by decide)
  have k5 := k4.nd (Bu := Bu) (n := tn) (ch := 101) (by decide) (by decide)
  have k6 := (k5.nd (Bu := Bu) (n := tn) (ch := 32) (by decide) (by decide)).dg (Bu := Bu) (n := tn) (ch := 51) (m := 2) (by decide) (by decide) (by decide)
  exact k6
theorem rd1_k4 {Bu : Nat → Int32} {tn pn : Nat} {nu : Nat → Int32} (e : hrM Bu tn pn = 108) : sR (rd1 Bu tn pn 4 nu) (ndM Bu tn 114 (ndM Bu tn 101 (ndM Bu tn 116 (ndM Bu tn 97 (pn + 1, false))))) 0 nu := by
  have k0 : sR (stF Bu tn (true, (pn, (0, nu))) 108) (pn + 1, false) 0 nu := by
    rw [← ndM_hit e]
    exact sR.nd ⟨rfl, fun _ => rfl⟩ (by decide) (by decide)
  have k1 := k0.nd (Bu := Bu) (n := tn) (ch := 97) (by decide) (by decide)
  have k2 := k1.nd (Bu := Bu) (n := tn) (ch := 116) (by decide) (by decide)
  have k3 := k2.nd (Bu := Bu) (n := tn) (ch := 101) (by decide) (by decide)
  have k4 := k3.nd (Bu := Bu) (n := tn) (ch := 114) (by decide) (by decide)
  exact k4
theorem rd1_k5 {Bu : Nat → Int32} {tn pn : Nat} {nu : Nat → Int32} (e : hrM Bu tn pn = 111) : sR (rd1 Bu tn pn 5 nu) (daM Bu tn 32 1 (ndM Bu tn 116 (ndM Bu tn 117 (pn + 1, false)))).2 1 (xw nu 0 (daM Bu tn 32 1 (ndM Bu tn 116 (ndM Bu tn 117 (pn + 1, false)))).1) := by
  have k0 : sR (stF Bu tn (true, (pn, (0, nu))) 111) (pn + 1, false) 0 nu := by
    rw [← ndM_hit e]
    exact sR.nd ⟨rfl, fun _ => rfl⟩ (by decide) (by decide)
  have k1 := k0.nd (Bu := Bu) (n := tn) (ch := 117) (by decide) (by decide)
  have k2 := k1.nd (Bu := Bu) (n := tn) (ch := 116) (by decide) (by decide)
  have k3 := (k2.nd (Bu := Bu) (n := tn) (ch := 32) (by decide) (by decide)).dg (Bu := Bu) (n := tn) (ch := 49) (m := 0) (by decide) (by decide) (by decide)
  exact k3
def cnF (j : Nat) : Nat := ([0, 1, 6, 1, 0, 1] : List Nat).getD j 0
theorem rdA_t {Bu : Nat → Int32} {n s m j far c : Nat} {nu : Nat → Int32} (h : (rd1 Bu n s j nu).1 = true) : rdA Bu n s (m + 1) j far c nu = (some j, (rd1 Bu n s j nu).2) := by
  show (bif (rd1 Bu n s j nu).1 then _ else _) = _
  rw [h, cond_true]
theorem rdA_f {Bu : Nat → Int32} {n s m j far c : Nat} {nu : Nat → Int32} (h : (rd1 Bu n s j nu).1 = false) : rdA Bu n s (m + 1) j far c nu = rdA Bu n s m (j + 1) (max far (rd1 Bu n s j nu).2.1) (rd1 Bu n s j nu).2.2.1 (rd1 Bu n s j nu).2.2.2 := by
  show (bif (rd1 Bu n s j nu).1 then _ else _) = _
  rw [h, cond_false]
theorem rdA_e {Bu : Nat → Int32} {n s m j far c p c2 : Nat} {nu nu2 : Nat → Int32} (h : rd1 Bu n s j nu = (false, (p, (c2, nu2)))) : rdA Bu n s (m + 1) j far c nu = rdA Bu n s m (j + 1) (max far p) c2 nu2 := by
  rw [rdA_f (by rw [h]), h]
theorem rdA_n {Bu : Nat → Int32} {n s j far c : Nat} {nu : Nat → Int32} : rdA Bu n s 0 j far c nu = (none, (far, (c, nu))) := rfl
/-- what both read at a place -/
def pcR (Bu : Nat → Int32) (tn pn b : Nat) (Pa nu : Nat → Int32) (c : Nat) : Prop :=
  (pcM Bu tn pn b Pa).2.1 = (rdA Bu tn pn 6 0 pn c nu).2.1 ∧ ((rdA Bu tn pn 6 0 pn c nu).1 = none → (pcM Bu tn pn b Pa).2.2 = true) ∧ ∀ j, (rdA Bu tn pn 6 0 pn c nu).1 = some j → (pcM Bu tn pn b Pa).2.2 = false ∧ j < 6 ∧ (pcM Bu tn pn b Pa).1 b = ltr j ∧ ∀ t, t < cnF j → (pcM Bu tn pn b Pa).1 (b + 1 + t) = nmC (rdA Bu tn pn 6 0 pn c nu).2.2.1 (rdA Bu tn pn 6 0 pn c nu).2.2.2 t
theorem pc_rd {Bu : Nat → Int32} {tn pn b c : Nat} {Pa nu : Nat → Int32} : pcR Bu tn pn b Pa nu c := by
  by_cases e1 : hrM Bu tn pn = 112
  · obtain ⟨k1, k2⟩ := rd1_k0 (nu := nu) e1
    cases hb : (rd1 Bu tn pn 0 nu).1 with
    | false =>
      have er : ∃ c2 nu2, rdA Bu tn pn 6 0 pn c nu = (none, ((rd1 Bu tn pn 0 nu).2.1, (c2, nu2))) := by
        have gp : pn + 1 ≤ (rd1 Bu tn pn 0 nu).2.1 := by
          have ek := congrArg Prod.fst k1
          have ek : (ndM Bu tn 114 (ndM Bu tn 101 (ndM Bu tn 121 (ndM Bu tn 97 (ndM Bu tn 108 (pn + 1, false)))))).1 = (rd1 Bu tn pn 0 nu).2.1 := ek
          have h0 : ((pn + 1, false) : Nat × Bool).1 = pn + 1 := rfl
          have g0 := ndM_ge (Bu := Bu) (tn := tn) (c := 108) (s := (pn + 1, false))
          have g1 := ndM_ge (Bu := Bu) (tn := tn) (c := 97) (s := (ndM Bu tn 108 (pn + 1, false)))
          have g2 := ndM_ge (Bu := Bu) (tn := tn) (c := 121) (s := (ndM Bu tn 97 (ndM Bu tn 108 (pn + 1, false))))
          have g3 := ndM_ge (Bu := Bu) (tn := tn) (c := 101) (s := (ndM Bu tn 121 (ndM Bu tn 97 (ndM Bu tn 108 (pn + 1, false)))))
          have g4 := ndM_ge (Bu := Bu) (tn := tn) (c := 114) (s := (ndM Bu tn 101 (ndM Bu tn 121 (ndM Bu tn 97 (ndM Bu tn 108 (pn + 1, false))))))
          omega
        refine ⟨0, (rd1 Bu tn pn 0 nu).2.2.2, ?_⟩
        rw [rdA_f hb, rdA_e (rd1_f1 (by rw [e1]; decide)), rdA_e (rd1_f2 (by rw [e1]; decide)), rdA_e (rd1_f3 (by rw [e1]; decide)), rdA_e (rd1_f4 (by rw [e1]; decide)), rdA_e (rd1_f5 (by rw [e1]; decide)), rdA_n]
        rw [show (max (max (max (max (max (max pn (rd1 Bu tn pn 0 nu).2.1) pn) pn) pn) pn) pn) = (rd1 Bu tn pn 0 nu).2.1 from by omega]
      obtain ⟨c2, nu2, er⟩ := er
      unfold pcR
      rw [pcM_p e1, er]
      rw [hb] at k1
      exact ⟨congrArg Prod.fst k1, fun _ => congrArg Prod.snd k1, fun j h => (nomatch h)⟩
    | true =>
      have er : rdA Bu tn pn 6 0 pn c nu = (some 0, (rd1 Bu tn pn 0 nu).2) := by
        rw [rdA_t hb]
      have e22 := k2 hb
      unfold pcR
      rw [pcM_p e1, er]
      rw [hb] at k1
      refine ⟨congrArg Prod.fst k1, fun h => (nomatch h), fun j h => ?_⟩
      have h := Option.some.inj h
      subst h
      refine ⟨congrArg Prod.snd k1, by decide, ?_, fun t ht => ?_⟩
      · simp [xw, ltr, e1]
      · exact absurd ht (by show ¬ t < 0; omega)
  by_cases e2 : hrM Bu tn pn = 111
  · by_cases e3 : hrM Bu tn (pn + 1) = 117
    · obtain ⟨k1, k2⟩ := rd1_k5 (nu := nu) e2
      cases hb : (rd1 Bu tn pn 5 nu).1 with
      | false =>
        have er : ∃ c2 nu2, rdA Bu tn pn 6 0 pn c nu = (none, ((rd1 Bu tn pn 5 nu).2.1, (c2, nu2))) := by
          have gp : pn + 1 ≤ (rd1 Bu tn pn 5 nu).2.1 := by
            have ek := congrArg Prod.fst k1
            have ek : (daM Bu tn 32 1 (ndM Bu tn 116 (ndM Bu tn 117 (pn + 1, false)))).2.1 = (rd1 Bu tn pn 5 nu).2.1 := ek
            have h0 : ((pn + 1, false) : Nat × Bool).1 = pn + 1 := rfl
            have g0 := ndM_ge (Bu := Bu) (tn := tn) (c := 117) (s := (pn + 1, false))
            have g1 := ndM_ge (Bu := Bu) (tn := tn) (c := 116) (s := (ndM Bu tn 117 (pn + 1, false)))
            have g2 := daM_ge (Bu := Bu) (tn := tn) (c := 32) (mx := 1) (s := (ndM Bu tn 116 (ndM Bu tn 117 (pn + 1, false))))
            omega
          refine ⟨(rd1 Bu tn pn 5 nu).2.2.1, (rd1 Bu tn pn 5 nu).2.2.2, ?_⟩
          rw [rdA_e (rd1_f0 (by rw [e2]; decide)), rdA_e (rd1_g1 e2 (by rw [e3]; decide)), rdA_e (rd1_f2 (by rw [e2]; decide)), rdA_e (rd1_f3 (by rw [e2]; decide)), rdA_e (rd1_f4 (by rw [e2]; decide)), rdA_f hb, rdA_n]
          rw [show (max (max (max (max (max (max pn pn) (pn + 1)) pn) pn) pn) (rd1 Bu tn pn 5 nu).2.1) = (rd1 Bu tn pn 5 nu).2.1 from by omega]
        obtain ⟨c2, nu2, er⟩ := er
        unfold pcR
        rw [pcM_u e1 e2 e3, er]
        rw [hb] at k1
        exact ⟨congrArg Prod.fst k1, fun _ => congrArg Prod.snd k1, fun j h => (nomatch h)⟩
      | true =>
        have er : rdA Bu tn pn 6 0 pn c nu = (some 5, (rd1 Bu tn pn 5 nu).2) := by
          rw [rdA_e (rd1_f0 (by rw [e2]; decide)), rdA_e (rd1_g1 e2 (by rw [e3]; decide)), rdA_e (rd1_f2 (by rw [e2]; decide)), rdA_e (rd1_f3 (by rw [e2]; decide)), rdA_e (rd1_f4 (by rw [e2]; decide)), rdA_t hb]
        have e22 := k2 hb
        unfold pcR
        rw [pcM_u e1 e2 e3, er]
        rw [hb] at k1
        refine ⟨congrArg Prod.fst k1, fun h => (nomatch h), fun j h => ?_⟩
        have h := Option.some.inj h
        subst h
        refine ⟨congrArg Prod.snd k1, by decide, ?_, fun t ht => ?_⟩
        · simp [xw, ltr, e2]
        · have ht : t < 1 := ht
          show _ = nmC (rd1 Bu tn pn 5 nu).2.2.1 (rd1 Bu tn pn 5 nu).2.2.2 t
          rw [e22]
          unfold nmC
          rw [if_pos (show t < 1 from ht)]
          have e0 : t = 0 := by omega
          subst e0
          simp [xw, nd3]
    · obtain ⟨k1, k2⟩ := rd1_k1 (nu := nu) e2
      cases hb : (rd1 Bu tn pn 1 nu).1 with
      | false =>
        have er : ∃ c2 nu2, rdA Bu tn pn 6 0 pn c nu = (none, ((rd1 Bu tn pn 1 nu).2.1, (c2, nu2))) := by
          have gp : pn + 1 ≤ (rd1 Bu tn pn 1 nu).2.1 := by
            have ek := congrArg Prod.fst k1
            have ek : (daM Bu tn 32 1 (ndM Bu tn 110 (ndM Bu tn 101 (ndM Bu tn 112 (pn + 1, false))))).2.1 = (rd1 Bu tn pn 1 nu).2.1 := ek
            have h0 : ((pn + 1, false) : Nat × Bool).1 = pn + 1 := rfl
            have g0 := ndM_ge (Bu := Bu) (tn := tn) (c := 112) (s := (pn + 1, false))
            have g1 := ndM_ge (Bu := Bu) (tn := tn) (c := 101) (s := (ndM Bu tn 112 (pn + 1, false)))
            have g2 := ndM_ge (Bu := Bu) (tn := tn) (c := 110) (s := (ndM Bu tn 101 (ndM Bu tn 112 (pn + 1, false))))
            have g3 := daM_ge (Bu := Bu) (tn := tn) (c := 32) (mx := 1) (s := (ndM Bu tn 110 (ndM Bu tn 101 (ndM Bu tn 112 (pn + 1, false)))))
            omega
          refine ⟨0, (rd1 Bu tn pn 1 nu).2.2.2, ?_⟩
          rw [rdA_e (rd1_f0 (by rw [e2]; decide)), rdA_f hb, rdA_e (rd1_f2 (by rw [e2]; decide)), rdA_e (rd1_f3 (by rw [e2]; decide)), rdA_e (rd1_f4 (by rw [e2]; decide)), rdA_e (rd1_g5 e2 e3), rdA_n]
          rw [show (max (max (max (max (max (max pn pn) (rd1 Bu tn pn 1 nu).2.1) pn) pn) pn) (pn + 1)) = (rd1 Bu tn pn 1 nu).2.1 from by omega]
        obtain ⟨c2, nu2, er⟩ := er
        unfold pcR
        rw [pcM_o e1 e2 e3, er]
        rw [hb] at k1
        exact ⟨congrArg Prod.fst k1, fun _ => congrArg Prod.snd k1, fun j h => (nomatch h)⟩
      | true =>
        have er : rdA Bu tn pn 6 0 pn c nu = (some 1, (rd1 Bu tn pn 1 nu).2) := by
          rw [rdA_e (rd1_f0 (by rw [e2]; decide)), rdA_t hb]
        have e22 := k2 hb
        unfold pcR
        rw [pcM_o e1 e2 e3, er]
        rw [hb] at k1
        refine ⟨congrArg Prod.fst k1, fun h => (nomatch h), fun j h => ?_⟩
        have h := Option.some.inj h
        subst h
        refine ⟨congrArg Prod.snd k1, by decide, ?_, fun t ht => ?_⟩
        · simp [xw, ltr, e2]
        · have ht : t < 1 := ht
          show _ = nmC (rd1 Bu tn pn 1 nu).2.2.1 (rd1 Bu tn pn 1 nu).2.2.2 t
          rw [e22]
          unfold nmC
          rw [if_pos (show t < 1 from ht)]
          have e0 : t = 0 := by omega
          subst e0
          simp [xw, nd3]
  by_cases e4 : hrM Bu tn pn = 98
  · obtain ⟨k1, k2⟩ := rd1_k2 (nu := nu) e4
    cases hb : (rd1 Bu tn pn 2 nu).1 with
    | false =>
      have er : ∃ c2 nu2, rdA Bu tn pn 6 0 pn c nu = (none, ((rd1 Bu tn pn 2 nu).2.1, (c2, nu2))) := by
        have gp : pn + 1 ≤ (rd1 Bu tn pn 2 nu).2.1 := by
          have ek := congrArg Prod.fst k1
          have ek : (daM Bu tn 32 2 (daM Bu tn 32 1 (daM Bu tn 45 3 (daM Bu tn 32 3 (daM Bu tn 32 2 (daM Bu tn 32 1 (ndM Bu tn 116 (ndM Bu tn 101 (pn + 1, false)))).2).2).2).2).2).2.1 = (rd1 Bu tn pn 2 nu).2.1 := ek
          have h0 : ((pn + 1, false) : Nat × Bool).1 = pn + 1 := rfl
          have g0 := ndM_ge (Bu := Bu) (tn := tn) (c := 101) (s := (pn + 1, false))
          have g1 := ndM_ge (Bu := Bu) (tn := tn) (c := 116) (s := (ndM Bu tn 101 (pn + 1, false)))
          have g2 := daM_ge (Bu := Bu) (tn := tn) (c := 32) (mx := 1) (s := (ndM Bu tn 116 (ndM Bu tn 101 (pn + 1, false))))
          have g3 := daM_ge (Bu := Bu) (tn := tn) (c := 32) (mx := 2) (s := (daM Bu tn 32 1 (ndM Bu tn 116 (ndM Bu tn 101 (pn + 1, false)))).2)
          have g4 := daM_ge (Bu := Bu) (tn := tn) (c := 32) (mx := 3) (s := (daM Bu tn 32 2 (daM Bu tn 32 1 (ndM Bu tn 116 (ndM Bu tn 101 (pn + 1, false)))).2).2)
          have g5 := daM_ge (Bu := Bu) (tn := tn) (c := 45) (mx := 3) (s := (daM Bu tn 32 3 (daM Bu tn 32 2 (daM Bu tn 32 1 (ndM Bu tn 116 (ndM Bu tn 101 (pn + 1, false)))).2).2).2)
          have g6 := daM_ge (Bu := Bu) (tn := tn) (c := 32) (mx := 1) (s := (daM Bu tn 45 3 (daM Bu tn 32 3 (daM Bu tn 32 2 (daM Bu tn 32 1 (ndM Bu tn 116 (ndM Bu tn 101 (pn + 1, false)))).2).2).2).2)
          have g7 := daM_ge (Bu := Bu) (tn := tn) (c := 32) (mx := 2) (s := (daM Bu tn 32 1 (daM Bu tn 45 3 (daM Bu tn 32 3 (daM Bu tn 32 2 (daM Bu tn 32 1 (ndM Bu tn 116 (ndM Bu tn 101 (pn + 1, false)))).2).2).2).2).2)
          omega
        refine ⟨0, (rd1 Bu tn pn 2 nu).2.2.2, ?_⟩
        rw [rdA_e (rd1_f0 (by rw [e4]; decide)), rdA_e (rd1_f1 (by rw [e4]; decide)), rdA_f hb, rdA_e (rd1_f3 (by rw [e4]; decide)), rdA_e (rd1_f4 (by rw [e4]; decide)), rdA_e (rd1_f5 (by rw [e4]; decide)), rdA_n]
        rw [show (max (max (max (max (max (max pn pn) pn) (rd1 Bu tn pn 2 nu).2.1) pn) pn) pn) = (rd1 Bu tn pn 2 nu).2.1 from by omega]
      obtain ⟨c2, nu2, er⟩ := er
      unfold pcR
      rw [pcM_b e1 e2 e4, er]
      rw [hb] at k1
      exact ⟨congrArg Prod.fst k1, fun _ => congrArg Prod.snd k1, fun j h => (nomatch h)⟩
    | true =>
      have er : rdA Bu tn pn 6 0 pn c nu = (some 2, (rd1 Bu tn pn 2 nu).2) := by
        rw [rdA_e (rd1_f0 (by rw [e4]; decide)), rdA_e (rd1_f1 (by rw [e4]; decide)), rdA_t hb]
      have e22 := k2 hb
      unfold pcR
      rw [pcM_b e1 e2 e4, er]
      rw [hb] at k1
      refine ⟨congrArg Prod.fst k1, fun h => (nomatch h), fun j h => ?_⟩
      have h := Option.some.inj h
      subst h
      refine ⟨congrArg Prod.snd k1, by decide, ?_, fun t ht => ?_⟩
      · simp [xw, ltr, e4]
      · have ht : t < 6 := ht
        show _ = nmC (rd1 Bu tn pn 2 nu).2.2.1 (rd1 Bu tn pn 2 nu).2.2.2 t
        rw [e22]
        unfold nmC
        rw [if_pos (show t < 6 from ht)]
        rcases (show t = 0 ∨ t = 1 ∨ t = 2 ∨ t = 3 ∨ t = 4 ∨ t = 5 by omega) with e0 | e0 | e0 | e0 | e0 | e0 <;> subst e0 <;> simp [xw, nd3]
  by_cases e5 : hrM Bu tn pn = 115
  · obtain ⟨k1, k2⟩ := rd1_k3 (nu := nu) e5
    cases hb : (rd1 Bu tn pn 3 nu).1 with
    | false =>
      have er : ∃ c2 nu2, rdA Bu tn pn 6 0 pn c nu = (none, ((rd1 Bu tn pn 3 nu).2.1, (c2, nu2))) := by
        have gp : pn + 1 ≤ (rd1 Bu tn pn 3 nu).2.1 := by
          have ek := congrArg Prod.fst k1
          have ek : (daM Bu tn 32 3 (ndM Bu tn 101 (ndM Bu tn 108 (ndM Bu tn 116 (ndM Bu tn 116 (ndM Bu tn 101 (pn + 1, false))))))).2.1 = (rd1 Bu tn pn 3 nu).2.1 := ek
          have h0 : ((pn + 1, false) : Nat × Bool).1 = pn + 1 := rfl
          have g0 := ndM_ge (Bu := Bu) (tn := tn) (c := 101) (s := (pn + 1, false))
          have g1 := ndM_ge (Bu := Bu) (tn := tn) (c := 116) (s := (ndM Bu tn 101 (pn + 1, false)))
          have g2 := ndM_ge (Bu := Bu) (tn := tn) (c := 116) (s := (ndM Bu tn 116 (ndM Bu tn 101 (pn + 1, false))))
          have g3 := ndM_ge (Bu := Bu) (tn := tn) (c := 108) (s := (ndM Bu tn 116 (ndM Bu tn 116 (ndM Bu tn 101 (pn + 1, false)))))
          have g4 := ndM_ge (Bu := Bu) (tn := tn) (c := 101) (s := (ndM Bu tn 108 (ndM Bu tn 116 (ndM Bu tn 116 (ndM Bu tn 101 (pn + 1, false))))))
          have g5 := daM_ge (Bu := Bu) (tn := tn) (c := 32) (mx := 3) (s := (ndM Bu tn 101 (ndM Bu tn 108 (ndM Bu tn 116 (ndM Bu tn 116 (ndM Bu tn 101 (pn + 1, false)))))))
          omega
        refine ⟨0, (rd1 Bu tn pn 3 nu).2.2.2, ?_⟩
        rw [rdA_e (rd1_f0 (by rw [e5]; decide)), rdA_e (rd1_f1 (by rw [e5]; decide)), rdA_e (rd1_f2 (by rw [e5]; decide)), rdA_f hb, rdA_e (rd1_f4 (by rw [e5]; decide)), rdA_e (rd1_f5 (by rw [e5]; decide)), rdA_n]
        rw [show (max (max (max (max (max (max pn pn) pn) pn) (rd1 Bu tn pn 3 nu).2.1) pn) pn) = (rd1 Bu tn pn 3 nu).2.1 from by omega]
      obtain ⟨c2, nu2, er⟩ := er
      unfold pcR
      rw [pcM_s e1 e2 e4 e5, er]
      rw [hb] at k1
      exact ⟨congrArg Prod.fst k1, fun _ => congrArg Prod.snd k1, fun j h => (nomatch h)⟩
    | true =>
      have er : rdA Bu tn pn 6 0 pn c nu = (some 3, (rd1 Bu tn pn 3 nu).2) := by
        rw [rdA_e (rd1_f0 (by rw [e5]; decide)), rdA_e (rd1_f1 (by rw [e5]; decide)), rdA_e (rd1_f2 (by rw [e5]; decide)), rdA_t hb]
      have e22 := k2 hb
      unfold pcR
      rw [pcM_s e1 e2 e4 e5, er]
      rw [hb] at k1
      refine ⟨congrArg Prod.fst k1, fun h => (nomatch h), fun j h => ?_⟩
      have h := Option.some.inj h
      subst h
      refine ⟨congrArg Prod.snd k1, by decide, ?_, fun t ht => ?_⟩
      · simp [xw, ltr, e5]
      · have ht : t < 1 := ht
        show _ = nmC (rd1 Bu tn pn 3 nu).2.2.1 (rd1 Bu tn pn 3 nu).2.2.2 t
        rw [e22]
        unfold nmC
        rw [if_pos (show t < 1 from ht)]
        have e0 : t = 0 := by omega
        subst e0
        simp [xw, nd3]
  by_cases e6 : hrM Bu tn pn = 108
  · obtain ⟨k1, k2⟩ := rd1_k4 (nu := nu) e6
    cases hb : (rd1 Bu tn pn 4 nu).1 with
    | false =>
      have er : ∃ c2 nu2, rdA Bu tn pn 6 0 pn c nu = (none, ((rd1 Bu tn pn 4 nu).2.1, (c2, nu2))) := by
        have gp : pn + 1 ≤ (rd1 Bu tn pn 4 nu).2.1 := by
          have ek := congrArg Prod.fst k1
          have ek : (ndM Bu tn 114 (ndM Bu tn 101 (ndM Bu tn 116 (ndM Bu tn 97 (pn + 1, false))))).1 = (rd1 Bu tn pn 4 nu).2.1 := ek
          have h0 : ((pn + 1, false) : Nat × Bool).1 = pn + 1 := rfl
          have g0 := ndM_ge (Bu := Bu) (tn := tn) (c := 97) (s := (pn + 1, false))
          have g1 := ndM_ge (Bu := Bu) (tn := tn) (c := 116) (s := (ndM Bu tn 97 (pn + 1, false)))
          have g2 := ndM_ge (Bu := Bu) (tn := tn) (c := 101) (s := (ndM Bu tn 116 (ndM Bu tn 97 (pn + 1, false))))
          have g3 := ndM_ge (Bu := Bu) (tn := tn) (c := 114) (s := (ndM Bu tn 101 (ndM Bu tn 116 (ndM Bu tn 97 (pn + 1, false)))))
          omega
        refine ⟨0, (rd1 Bu tn pn 4 nu).2.2.2, ?_⟩
        rw [rdA_e (rd1_f0 (by rw [e6]; decide)), rdA_e (rd1_f1 (by rw [e6]; decide)), rdA_e (rd1_f2 (by rw [e6]; decide)), rdA_e (rd1_f3 (by rw [e6]; decide)), rdA_f hb, rdA_e (rd1_f5 (by rw [e6]; decide)), rdA_n]
        rw [show (max (max (max (max (max (max pn pn) pn) pn) pn) (rd1 Bu tn pn 4 nu).2.1) pn) = (rd1 Bu tn pn 4 nu).2.1 from by omega]
      obtain ⟨c2, nu2, er⟩ := er
      unfold pcR
      rw [pcM_l e1 e2 e4 e5 e6, er]
      rw [hb] at k1
      exact ⟨congrArg Prod.fst k1, fun _ => congrArg Prod.snd k1, fun j h => (nomatch h)⟩
    | true =>
      have er : rdA Bu tn pn 6 0 pn c nu = (some 4, (rd1 Bu tn pn 4 nu).2) := by
        rw [rdA_e (rd1_f0 (by rw [e6]; decide)), rdA_e (rd1_f1 (by rw [e6]; decide)), rdA_e (rd1_f2 (by rw [e6]; decide)), rdA_e (rd1_f3 (by rw [e6]; decide)), rdA_t hb]
      have e22 := k2 hb
      unfold pcR
      rw [pcM_l e1 e2 e4 e5 e6, er]
      rw [hb] at k1
      refine ⟨congrArg Prod.fst k1, fun h => (nomatch h), fun j h => ?_⟩
      have h := Option.some.inj h
      subst h
      refine ⟨congrArg Prod.snd k1, by decide, ?_, fun t ht => ?_⟩
      · simp [xw, ltr, e6]
      · exact absurd ht (by show ¬ t < 0; omega)
  have er : rdA Bu tn pn 6 0 pn c nu = (none, (pn, (0, nu))) := by
    rw [rdA_e (rd1_f0 e1), rdA_e (rd1_f1 e2), rdA_e (rd1_f2 e4), rdA_e (rd1_f3 e5), rdA_e (rd1_f4 e6), rdA_e (rd1_f5 e2), rdA_n]
    simp only [Nat.max_self]
  unfold pcR
  rw [pcM_d e1 e2 e4 e5 e6, er]
  exact ⟨rfl, fun _ => rfl, fun j h => (nomatch h)⟩
