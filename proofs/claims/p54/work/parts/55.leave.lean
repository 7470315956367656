/-! the reference: leaving -/
def rmS (G : Nat → Int32) (x r k : Nat) : Nat → Int32 := fun j => if 138 + 25 * x + 5 * r ≤ j ∧ j < k then G (j + 5) else G j
def rmG (G : Nat → Int32) (x r m : Nat) : Nat → Int32 := xw (rmS G x r (138 + 25 * x + 20)) (132 + x) (nI (m - 1))
/-- player i leaves the question at x, which has m estimates -/
def wd1 (G : Nat → Int32) (i x m : Nat) : Nat → Int32 := if rnk (gE G x) m (nI i) < m then rmG (xw G (10 + i) (G (10 + i) + (gE G x (rnk (gE G x) m (nI i))).2.2.2.2)) x (rnk (gE G x) m (nI i)) m else G
def wdN (G : Nat → Int32) (i : Nat) (mn : Nat → Nat) : Nat → (Nat → Int32)
  | 0 => G
  | x + 1 => wd1 (wdN G i mn x) i x (mn x)
def hasM (G : Nat → Int32) (i : Nat) (mn : Nat → Nat) (x : Nat) : Bool := decide (rnk (gE G x) (mn x) (nI i) < mn x)
def mnW (G : Nat → Int32) (i : Nat) (mn : Nat → Nat) (n x : Nat) : Nat := if x < n then (bif hasM G i mn x then mn x - 1 else mn x) else mn x
theorem wd1_out {G : Nat → Int32} {i x m j : Nat} (hj : j ≠ 10 + i) (h1 : j ≠ 132 + x) (h2 : j < 138 + 25 * x ∨ 138 + 25 * x + 20 ≤ j) : wd1 G i x m j = G j := by
  unfold wd1
  split
  · unfold rmG rmS
    rw [xw_n h1, if_neg (by omega), xw_n hj]
  · rfl
theorem wdN_out {G : Nat → Int32} {i : Nat} {mn : Nat → Nat} {j : Nat} (hj : j ≠ 10 + i) : ∀ {n : Nat}, (j < 132 ∨ (132 + n ≤ j ∧ j < 138) ∨ 138 + 25 * n ≤ j) → wdN G i mn n j = G j
  | 0, _ => rfl
  | n + 1, h => by
    show wd1 _ _ _ _ _ = _
    rw [wd1_out hj (by omega) (by omega), wdN_out hj (by omega)]
theorem wdN_E {G : Nat → Int32} {i : Nat} {mn : Nat → Nat} {x : Nat} (hi : i < 5) : gE (wdN G i mn x) x = gE G x := funext fun r => by
  unfold gE
  rw [wdN_out (by omega) (by omega), wdN_out (by omega) (by omega), wdN_out (by omega) (by omega), wdN_out (by omega) (by omega), wdN_out (by omega) (by omega)]
theorem wdN_W {G : Nat → Int32} {np no i : Nat} {mn : Nat → Nat} (hG : WG G np no mn) (hi : i < 5) : ∀ {n : Nat}, n ≤ 6 → WG (wdN G i mn n) np no (mnW G i mn n) := by
  intro n hn
  refine ⟨⟨(wdN_out (by omega) (by omega)).trans hG.1.1, hG.1.2⟩, ⟨(wdN_out (by omega) (by omega)).trans hG.2.1.1, hG.2.1.2⟩, ?_⟩
  induction n with
  | zero => intro x hx; exact ⟨(hG.2.2 x hx).1.trans (by unfold mnW; rw [if_neg (by omega)]), by unfold mnW; rw [if_neg (by omega)]; exact (hG.2.2 x hx).2⟩
  | succ n ih =>
    intro x hx
    obtain ⟨e1, e2⟩ := ih (by omega) x hx
    have hb := (hG.2.2 x hx).2
    by_cases z : x = n
    · subst z
      have e3 : wdN G i mn (x + 1) = wd1 (wdN G i mn x) i x (mn x) := rfl
      rw [e3]
      unfold wd1 mnW
      rw [if_pos (Nat.lt_succ_self _), wdN_E hi]
      unfold hasM
      by_cases c : rnk (gE G x) (mn x) (nI i) < mn x
      · rw [if_pos c, decide_eq_true c, cond_true]
        unfold rmG
        rw [xw_s]
        exact ⟨rfl, by omega⟩
      · rw [if_neg c, decide_eq_false c, cond_false]
        refine ⟨?_, hb⟩
        rw [wdN_out (by omega) (by omega)]
        exact (hG.2.2 x hx).1
    · have e4 : mnW G i mn (n + 1) x = mnW G i mn n x := by
        unfold mnW
        by_cases c : x < n
        · rw [if_pos c, if_pos (by omega)]
        · rw [if_neg c, if_neg (by omega)]
      rw [e4]
      refine ⟨?_, e2⟩
      rw [← e1]
      exact wd1_out (by omega) (by omega) (by omega)
