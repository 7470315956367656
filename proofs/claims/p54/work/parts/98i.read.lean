/-! what is read depends on the letters alone -/
section RD
variable {Bu Cu : Nat → Int32} {n : Nat}
theorem dgc_cg (hb : ∀ i, i < n → Bu i = Cu i) (p : Nat) : ∀ m, dgc Bu n p m = dgc Cu n p m
  | 0 => rfl
  | m + 1 => by
    unfold dgc
    rw [dgc_cg hb p m]
    by_cases hp : p + m < n
    · rw [hb _ hp]
    · rw [if_neg (fun z => hp z.2.1), if_neg (fun z => hp z.2.1)]
theorem dgc_in (p : Nat) : ∀ m x, x < dgc Bu n p m → p + x < n
  | 0, x, h => absurd h (Nat.not_lt_zero _)
  | m + 1, x, h => by
    unfold dgc at h
    split at h
    · rename_i z
      omega
    · exact dgc_in p m x h
theorem dv_cg (hb : ∀ i, i < n → Bu i = Cu i) (p : Nat) : ∀ j, (∀ x, x < j → p + x < n) → dv Bu p j = dv Cu p j
  | 0, _ => rfl
  | j + 1, h => by
    unfold dv
    rw [dv_cg hb p j (fun x hx => h x (by omega)), hb _ (h j (Nat.lt_succ_self _))]
def sPs (s t : XPs) : Prop := s.1 = t.1 ∧ s.2.1 = t.2.1 ∧ s.2.2.1 = t.2.2.1 ∧ ∀ i, i < s.2.2.1 → s.2.2.2 i = t.2.2.2 i
theorem stF_cg (hb : ∀ i, i < n → Bu i = Cu i) {s t : XPs} (h : sPs s t) (ch : Int32) : sPs (stF Bu n s ch) (stF Cu n t ch) := by
  obtain ⟨a, p, c, nu⟩ := s
  obtain ⟨a2, p2, c2, nu2⟩ := t
  obtain ⟨h1, h2, h3, h4⟩ := h
  have h1 : a = a2 := h1
  have h2 : p = p2 := h2
  have h3 : c = c2 := h3
  subst h1; subst h2; subst h3
  have h4 : ∀ i, i < c → nu i = nu2 i := h4
  cases a with
  | false => exact ⟨rfl, rfl, rfl, h4⟩
  | true =>
    show sPs (if dgt ch then _ else _) (if dgt ch then _ else _)
    by_cases hd : dgt ch
    · rw [if_pos hd, if_pos hd]
      dsimp only
      rw [← dgc_cg hb p (ch - 48).toNatClampNeg]
      by_cases hz : 0 < dgc Bu n p (ch - 48).toNatClampNeg ∧ c < 6
      · rw [if_pos hz, if_pos hz]
        refine ⟨rfl, rfl, rfl, fun i hi => ?_⟩
        have hi : i < c + 1 := hi
        show xw nu c _ i = xw nu2 c _ i
        rw [dv_cg hb p _ (fun x hx => dgc_in p _ x hx)]
        unfold xw
        by_cases z : i = c
        · rw [if_pos z, if_pos z]
        · rw [if_neg z, if_neg z]; exact h4 i (by omega)
      · rw [if_neg hz, if_neg hz]
        exact ⟨rfl, rfl, rfl, h4⟩
    · rw [if_neg hd, if_neg hd]
      dsimp only
      by_cases hp : p < n
      · rw [hb p hp]
        split
        · exact ⟨rfl, rfl, rfl, h4⟩
        · exact ⟨rfl, rfl, rfl, h4⟩
      · rw [if_neg (fun z => hp z.1), if_neg (fun z => hp z.1)]
        exact ⟨rfl, rfl, rfl, h4⟩
theorem rdF_cg (hb : ∀ i, i < n → Bu i = Cu i) (F : Nat → Int32) {s t : XPs} (h : sPs s t) : ∀ i, sPs (rdF Bu n F s i) (rdF Cu n F t i)
  | 0 => h
  | i + 1 => stF_cg hb (rdF_cg hb F h i) _
theorem rd1_cg (hb : ∀ i, i < n → Bu i = Cu i) (s j : Nat) (nu nu2 : Nat → Int32) : sPs (rd1 Bu n s j nu) (rd1 Cu n s j nu2) := rdF_cg hb (fun i => (xfB j).getD i 0) (s := (true, (s, (0, nu)))) (t := (true, (s, (0, nu2)))) ⟨rfl, rfl, rfl, fun i hi => absurd (show i < 0 from hi) (Nat.not_lt_zero _)⟩ (lenF j)
def sPa (s t : XPa) : Prop := s.1 = t.1 ∧ s.2.1 = t.2.1 ∧ ∀ k, s.1 = some k → s.2.2.1 = t.2.2.1 ∧ ∀ i, i < s.2.2.1 → s.2.2.2 i = t.2.2.2 i
theorem rdA_cg (hb : ∀ i, i < n → Bu i = Cu i) (s : Nat) : ∀ (m j far c c2 : Nat) (nu nu2 : Nat → Int32), sPa (rdA Bu n s m j far c nu) (rdA Cu n s m j far c2 nu2)
  | 0, j, far, c, c2, nu, nu2 => ⟨rfl, rfl, fun k h => nomatch h⟩
  | m + 1, j, far, c, c2, nu, nu2 => by
    have h := rd1_cg hb s j nu nu2
    unfold rdA
    rw [← h.1, ← h.2.1]
    cases hz : (rd1 Bu n s j nu).1 with
    | true => exact ⟨rfl, h.2.1, fun k _ => ⟨h.2.2.1, h.2.2.2⟩⟩
    | false => exact rdA_cg hb s m (j + 1) _ _ _ _ _
theorem sPa.nm {s t : XPa} (h : sPa s t) {k : Nat} (e : s.1 = some k) : nmC s.2.2.1 s.2.2.2 = nmC t.2.2.1 t.2.2.2 := by
  obtain ⟨h1, h2⟩ := h.2.2 k e
  funext i
  unfold nmC
  rw [← h1]
  by_cases z : i < s.2.2.1
  · rw [if_pos z, if_pos z, h2 i z]
  · rw [if_neg z, if_neg z]
theorem ctC_cg (hb : ∀ i, i < n → Bu i = Cu i) : ∀ (m v p c c2 : Nat) (nu nu2 : Nat → Int32), (ctC Bu n m v p c nu).1 = (ctC Cu n m v p c2 nu2).1 ∧ (ctC Bu n m v p c nu).2.1 = (ctC Cu n m v p c2 nu2).2.1
  | 0, v, p, c, c2, nu, nu2 => ⟨rfl, rfl⟩
  | m + 1, v, p, c, c2, nu, nu2 => by
    have h := rdA_cg hb p 6 0 p c c2 nu nu2
    rw [ctC_s, ctC_s, ← h.1]
    cases hz : (rdA Bu n p 6 0 p c nu).1 with
    | none => exact ⟨rfl, h.2.1⟩
    | some k =>
      dsimp only
      rw [← h.2.1]
      by_cases h1 : (rdA Bu n p 6 0 p c nu).2.1 = n
      · rw [if_pos h1, if_pos h1]
        exact ⟨rfl, h.2.1⟩
      · rw [if_neg h1, if_neg h1]
        by_cases h2 : (rdA Bu n p 6 0 p c nu).2.1 < n
        · rw [← hb _ h2]
          by_cases h3 : Bu (rdA Bu n p 6 0 p c nu).2.1 = 59
          · rw [if_pos ⟨h2, h3⟩, if_pos ⟨h2, h3⟩]
            exact ctC_cg hb m _ _ _ _ _ _
          · rw [if_neg (fun z => h3 z.2), if_neg (fun z => h3 z.2)]
            exact ⟨rfl, h.2.1⟩
        · rw [if_neg (fun z => h2 z.1), if_neg (fun z => h2 z.1)]
          exact ⟨rfl, h.2.1⟩
theorem exC_cg (hb : ∀ i, i < n → Bu i = Cu i) : ∀ (m v p c c2 : Nat) (nu nu2 G : Nat → Int32), (exC Bu n m v p c nu G).1 = (exC Cu n m v p c2 nu2 G).1 ∧ (exC Bu n m v p c nu G).2.1 = (exC Cu n m v p c2 nu2 G).2.1
  | 0, v, p, c, c2, nu, nu2, G => ⟨rfl, rfl⟩
  | m + 1, v, p, c, c2, nu, nu2, G => by
    have h := rdA_cg hb p 6 0 p c c2 nu nu2
    rw [exC_s, exC_s, ← h.1]
    cases hz : (rdA Bu n p 6 0 p c nu).1 with
    | none => exact ⟨rfl, rfl⟩
    | some k =>
      dsimp only
      rw [← h.2.1, ← h.nm hz]
      split
      · have e : (if (rdA Bu n p 6 0 p c nu).2.1 < n ∧ Bu (rdA Bu n p 6 0 p c nu).2.1 = 59 then (rdA Bu n p 6 0 p c nu).2.1 + 1 else (rdA Bu n p 6 0 p c nu).2.1) = (if (rdA Bu n p 6 0 p c nu).2.1 < n ∧ Cu (rdA Bu n p 6 0 p c nu).2.1 = 59 then (rdA Bu n p 6 0 p c nu).2.1 + 1 else (rdA Bu n p 6 0 p c nu).2.1) := by
          by_cases h2 : (rdA Bu n p 6 0 p c nu).2.1 < n
          · rw [← hb _ h2]
          · rw [if_neg (fun z => h2 z.1), if_neg (fun z => h2 z.1)]
        rw [e]
        exact exC_cg hb m _ _ _ _ _ _ _
      · exact ⟨rfl, rfl⟩
end RD
theorem putB_at {Bu : Nat → Int32} {L : List Int32} : ∀ {n i : Nat}, i < n → putB Bu L n i = L.getD i 0
  | n + 1, i, h => by
    unfold putB xw
    by_cases z : i = n
    · rw [if_pos z, z]
    · rw [if_neg z]; exact putB_at (by omega)
/-- the letters of a text, and nothing behind -/
def cl (L : List Int32) : Nat → Int32 := fun i => L.getD i 0
theorem putB_cl {Bu : Nat → Int32} {L : List Int32} {n : Nat} : ∀ i, i < n → putB Bu L n i = cl L i := fun _ hi => putB_at hi
theorem bad_9 : ∀ (Bu : Nat → Int32) (c : Nat) (nu : Nat → Int32), (ctC (putB Bu (xfB 9) 1) 1 60 1 0 c nu).1 = none ∧ (ctC (putB Bu (xfB 9) 1) 1 60 1 0 c nu).2.1 = 1 := fun Bu c nu => by
  have k : (ctC (cl (xfB 9)) 1 60 1 0 0 (fun _ => 0)).1 = none ∧ (ctC (cl (xfB 9)) 1 60 1 0 0 (fun _ => 0)).2.1 = 1 := by decide +kernel
  have e := ctC_cg (Bu := putB Bu (xfB 9) 1) (Cu := cl (xfB 9)) (n := 1) putB_cl 60 1 0 c 0 nu (fun _ => 0)
  rw [e.1, e.2]
  exact k
theorem bad_10 : ∀ (Bu : Nat → Int32) (c : Nat) (nu : Nat → Int32), (ctC (putB Bu (xfB 10) 2) 2 60 1 0 c nu).1 = none ∧ (ctC (putB Bu (xfB 10) 2) 2 60 1 0 c nu).2.1 = 1 := fun Bu c nu => by
  have k : (ctC (cl (xfB 10)) 2 60 1 0 0 (fun _ => 0)).1 = none ∧ (ctC (cl (xfB 10)) 2 60 1 0 0 (fun _ => 0)).2.1 = 1 := by decide +kernel
  have e := ctC_cg (Bu := putB Bu (xfB 10) 2) (Cu := cl (xfB 10)) (n := 2) putB_cl 60 1 0 c 0 nu (fun _ => 0)
  rw [e.1, e.2]
  exact k
theorem bad_11 : ∀ (Bu : Nat → Int32) (c : Nat) (nu : Nat → Int32), (ctC (putB Bu (xfB 11) 9) 9 60 1 0 c nu).1 = none ∧ (ctC (putB Bu (xfB 11) 9) 9 60 1 0 c nu).2.1 = 9 := fun Bu c nu => by
  have k : (ctC (cl (xfB 11)) 9 60 1 0 0 (fun _ => 0)).1 = none ∧ (ctC (cl (xfB 11)) 9 60 1 0 0 (fun _ => 0)).2.1 = 9 := by decide +kernel
  have e := ctC_cg (Bu := putB Bu (xfB 11) 9) (Cu := cl (xfB 11)) (n := 9) putB_cl 60 1 0 c 0 nu (fun _ => 0)
  rw [e.1, e.2]
  exact k
theorem bad_12 : ∀ (Bu : Nat → Int32) (c : Nat) (nu : Nat → Int32), (ctC (putB Bu (xfB 12) 9) 9 60 1 0 c nu).1 = none ∧ (ctC (putB Bu (xfB 12) 9) 9 60 1 0 c nu).2.1 = 8 := fun Bu c nu => by
  have k : (ctC (cl (xfB 12)) 9 60 1 0 0 (fun _ => 0)).1 = none ∧ (ctC (cl (xfB 12)) 9 60 1 0 0 (fun _ => 0)).2.1 = 8 := by decide +kernel
  have e := ctC_cg (Bu := putB Bu (xfB 12) 9) (Cu := cl (xfB 12)) (n := 9) putB_cl 60 1 0 c 0 nu (fun _ => 0)
  rw [e.1, e.2]
  exact k
theorem bad_13 : ∀ (Bu : Nat → Int32) (c : Nat) (nu : Nat → Int32), (ctC (putB Bu (xfB 13) 6) 6 60 1 0 c nu).1 = none ∧ (ctC (putB Bu (xfB 13) 6) 6 60 1 0 c nu).2.1 = 6 := fun Bu c nu => by
  have k : (ctC (cl (xfB 13)) 6 60 1 0 0 (fun _ => 0)).1 = none ∧ (ctC (cl (xfB 13)) 6 60 1 0 0 (fun _ => 0)).2.1 = 6 := by decide +kernel
  have e := ctC_cg (Bu := putB Bu (xfB 13) 6) (Cu := cl (xfB 13)) (n := 6) putB_cl 60 1 0 c 0 nu (fun _ => 0)
  rw [e.1, e.2]
  exact k
theorem bad_14 : ∀ (Bu : Nat → Int32) (c : Nat) (nu : Nat → Int32), (ctC (putB Bu (xfB 14) 7) 7 60 1 0 c nu).1 = none ∧ (ctC (putB Bu (xfB 14) 7) 7 60 1 0 c nu).2.1 = 6 := fun Bu c nu => by
  have k : (ctC (cl (xfB 14)) 7 60 1 0 0 (fun _ => 0)).1 = none ∧ (ctC (cl (xfB 14)) 7 60 1 0 0 (fun _ => 0)).2.1 = 6 := by decide +kernel
  have e := ctC_cg (Bu := putB Bu (xfB 14) 7) (Cu := cl (xfB 14)) (n := 7) putB_cl 60 1 0 c 0 nu (fun _ => 0)
  rw [e.1, e.2]
  exact k
theorem bad_15 : ∀ (Bu : Nat → Int32) (c : Nat) (nu : Nat → Int32), (ctC (putB Bu (xfB 15) 0) 0 60 1 0 c nu).1 = none ∧ (ctC (putB Bu (xfB 15) 0) 0 60 1 0 c nu).2.1 = 0 := fun Bu c nu => by
  have k : (ctC (cl (xfB 15)) 0 60 1 0 0 (fun _ => 0)).1 = none ∧ (ctC (cl (xfB 15)) 0 60 1 0 0 (fun _ => 0)).2.1 = 0 := by decide +kernel
  have e := ctC_cg (Bu := putB Bu (xfB 15) 0) (Cu := cl (xfB 15)) (n := 0) putB_cl 60 1 0 c 0 nu (fun _ => 0)
  rw [e.1, e.2]
  exact k
theorem bad_16 : ∀ (Bu : Nat → Int32) (c : Nat) (nu : Nat → Int32), (ctC (putB Bu (xfB 16) 6) 6 60 1 0 c nu).1 = none ∧ (ctC (putB Bu (xfB 16) 6) 6 60 1 0 c nu).2.1 = 6 := fun Bu c nu => by
  have k : (ctC (cl (xfB 16)) 6 60 1 0 0 (fun _ => 0)).1 = none ∧ (ctC (cl (xfB 16)) 6 60 1 0 0 (fun _ => 0)).2.1 = 6 := by decide +kernel
  have e := ctC_cg (Bu := putB Bu (xfB 16) 6) (Cu := cl (xfB 16)) (n := 6) putB_cl 60 1 0 c 0 nu (fun _ => 0)
  rw [e.1, e.2]
  exact k
theorem bad_17 : ∀ (Bu : Nat → Int32) (c : Nat) (nu : Nat → Int32), (ctC (putB Bu (xfB 17) 11) 11 60 1 0 c nu).1 = none ∧ (ctC (putB Bu (xfB 17) 11) 11 60 1 0 c nu).2.1 = 10 := fun Bu c nu => by
  have k : (ctC (cl (xfB 17)) 11 60 1 0 0 (fun _ => 0)).1 = none ∧ (ctC (cl (xfB 17)) 11 60 1 0 0 (fun _ => 0)).2.1 = 10 := by decide +kernel
  have e := ctC_cg (Bu := putB Bu (xfB 17) 11) (Cu := cl (xfB 17)) (n := 11) putB_cl 60 1 0 c 0 nu (fun _ => 0)
  rw [e.1, e.2]
  exact k
theorem bad_18 : ∀ (Bu : Nat → Int32) (c : Nat) (nu : Nat → Int32), (ctC (putB Bu (xfB 18) 17) 17 60 1 0 c nu).1 = none ∧ (ctC (putB Bu (xfB 18) 17) 17 60 1 0 c nu).2.1 = 16 := fun Bu c nu => by
  have k : (ctC (cl (xfB 18)) 17 60 1 0 0 (fun _ => 0)).1 = none ∧ (ctC (cl (xfB 18)) 17 60 1 0 0 (fun _ => 0)).2.1 = 16 := by decide +kernel
  have e := ctC_cg (Bu := putB Bu (xfB 18) 17) (Cu := cl (xfB 18)) (n := 17) putB_cl 60 1 0 c 0 nu (fun _ => 0)
  rw [e.1, e.2]
  exact k
theorem bad_19 : ∀ (Bu : Nat → Int32) (c : Nat) (nu : Nat → Int32), (ctC (putB Bu (xfB 19) 1) 1 60 1 0 c nu).1 = none ∧ (ctC (putB Bu (xfB 19) 1) 1 60 1 0 c nu).2.1 = 0 := fun Bu c nu => by
  have k : (ctC (cl (xfB 19)) 1 60 1 0 0 (fun _ => 0)).1 = none ∧ (ctC (cl (xfB 19)) 1 60 1 0 0 (fun _ => 0)).2.1 = 0 := by decide +kernel
  have e := ctC_cg (Bu := putB Bu (xfB 19) 1) (Cu := cl (xfB 19)) (n := 1) putB_cl 60 1 0 c 0 nu (fun _ => 0)
  rw [e.1, e.2]
  exact k
