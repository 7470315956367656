/-! the law's loop, and the law -/
theorem LwI.up {h : XH} {c : Nat} (hI : LwI h c) : LwI h (c + 1) := by
  obtain ⟨H, Sv, pos, ch, sv, K, ea, fa, G, tn, Bu, on, Le, hX, hS, hC, hT, hZ, hM, hO, hD, hK, hcn⟩ := hI
  exact ⟨H, Sv, pos, ch, sv, K, ea, fa, G, tn, Bu, on, Le, hX, hS, hC, hT, hZ, hM, hO, hD, ⟨by omega, hK.2⟩, by omega, by omega⟩
