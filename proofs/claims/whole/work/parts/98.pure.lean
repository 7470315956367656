/-! the run of the law -/
theorem xpure : xPure := by
  intro L xs hL
  obtain ⟨n, ⟨o, h⟩, hz, rfl, hb⟩ := lw_law (S := (L, xs)) (d := 26) (h := (fun _ => none, (some 0, (0, 0)))) (Q := fun o h => o = .inl (some (.int 1)) ∧ (h.2.2.1 ≤ 603072 ∧ h.2.2.2 ≤ 7178346)) hL (fun h2 c hc hI => by
    obtain ⟨H, Sv, pos, ch, sv, K, ea, fa, G, tn, Bu, on, Le, -, -, -, -, -, -, -, -, -, hcn⟩ := hI
    exact ⟨rfl, by omega, by omega⟩) rfl
  exact ⟨n, h, hz, hb⟩
