/-! the reference: further answers -/
/-- scores and hits are small -/
def smP (G : Nat → Int32) (i : Nat) : Prop := ∃ s t : Nat, s ≤ 1000000000 ∧ t ≤ 1000000000 ∧ G (20 + i) = nI s ∧ xsum (fun j => G (75 + 9 * i + j)) 9 = nI t
theorem nI_subI {a b : Nat} (ha : a ≤ 1000000000) (hb : b ≤ 1000000000) : (nI a - nI b).toInt = (a : Int) - b := by
  rw [Int32.toInt_sub, nI_toInt (by omega), nI_toInt (by omega)]
  refine Int.bmod_eq_of_le ?_ ?_ <;> omega
