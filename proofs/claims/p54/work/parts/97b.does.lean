/-! the reference carries out a command -/
def GOK (G : Nat → Int32) (K : Nat) : Prop := ∃ mn np no nn N sc ho TS TH tr pl q, RG G mn np no nn sc ho tr pl q ∧ OKc np no nn N sc ho TS TH pl q ∧ N ≤ K ∧ sc ≤ K
theorem GOK.up {G : Nat → Int32} {K M : Nat} (h : GOK G K) (e : K ≤ M) : GOK G M := by
  obtain ⟨mn, np, no, nn, N, sc, ho, TS, TH, tr, pl, q, hr, hk, hN, hs⟩ := h
  exact ⟨mn, np, no, nn, N, sc, ho, TS, TH, tr, pl, q, hr, hk, by omega, by omega⟩
