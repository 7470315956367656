/-! the law, whole -/
theorem lw_main {S : XSc} {d : Nat} {Q : XO → XH → Prop} (hL : S.1 ≤ 260) (hQ : ∀ h2 : XH, h2.2.2.1 ≤ 8000 → h2.2.2.2 ≤ 80000 → Q (.inl (some (.int 1))) h2) : yP S (d + 10) 286 0 [(0, .ref 12)] [] emH Q := by
  refine lw_s1 hL (fun h1 bx bz Fx Fy G H Sv ch Bu A1 Y1 D1 L1 C1 => ?_)
  refine lw_s2 A1 Y1 D1 L1 C1 (fun nw h2 F2 Fy2 hw A2 Y2 D2 L2 C2 => ?_)
  have rest : ∀ h2 F2 B2 H2 ch2 ea2 fa2 Bu2, AtC h2 bx F2 (Ca B2 G H2 G ch2 true ea2 fa2 0 Bu2) → B2 ≤ 240 → Lo h2 → (h2.2.2.1 ≤ 5000 ∧ h2.2.2.2 ≤ 30000) → yP S (d + 10) 286 170 [(0, .ref 12), (1, .ref bx), (3, .int (G 1)), (4, .int nw)] [] h2 Q := by
    intro h3 F3 B3 H3 ch3 ea3 fa3 Bu3 A3 hB3 L3 C3
    refine lw_s4 hw hB3 A3 L3 C3 (fun h4 F4 B4 ea4 fa4 Bu4 A4 hB4 L4 C4 => ?_)
    refine lw_s5 hw hB4 A4 L4 C4 (fun h5 F5 B5 ea5 Bu5 A5 hB5 L5 C5 => ?_)
    refine lw_s6 hw hB5 A5 L5 C5 (fun h6 F6 B6 ea6 fa6 Bu6 A6 hB6 L6 C6 => ?_)
    refine lw_u1 hL A6 L6 C6 (fun zb kk h7 F7 Fy7 H7 ch7 Bu7 hk A7 X7 D7 L7 C7 => ?_)
    refine lw_u2 hk A7 X7 D7 L7 C7 (fun h8 F8 Fy8 H8 ch8 Bu8 A8 X8 D8 L8 C8 => ?_)
    refine lw_u3 hk A8 X8 D8 L8 C8 (fun h9 F9 Fy9 H9 ch9 Bu9 A9 X9 D9 L9 C9 => ?_)
    refine lw_u4 hk A9 X9 D9 L9 C9 (fun h10 F10 Fy10 H10 ch10 Bu10 A10 X10 D10 L10 C10 => ?_)
    refine lw_u5 hk A10 X10 D10 L10 C10 (fun h11 F11 Fy11 H11 ch11 Bu11 A11 X11 D11 L11 C11 => ?_)
    exact yP_lv [(0, .ref 12), (1, .ref bx), (3, .int (G 1)), (4, .int nw)] rfl ⟨rfl, rfl, rfl, rfl, trivial⟩ (lw_u6 hw X11 C11 hQ)
  have g6 := A2.gd.1.2.1.2
  by_cases h2g : 1 < noG G
  · exact lw_s3a hw A2 Y2 D2 L2 C2 h2g rest
  · by_cases h0 : noG G = 0
    · exact yP_lv [(0, .ref 12), (1, .ref bx), (3, .int (G 1)), (4, .int nw)] rfl ⟨rfl, rfl, rfl, rfl, trivial⟩ (lw_s3b0 hw A2 L2 C2 h0 rest)
    · exact yP_lv [(0, .ref 12), (1, .ref bx), (3, .int (G 1)), (4, .int nw)] rfl ⟨rfl, rfl, rfl, rfl, trivial⟩ (lw_s3b1 hw A2 L2 C2 (by omega) rest)
theorem xpure : xPure := by
  intro L xs hL
  obtain ⟨n, z, e, q1, q2, q3⟩ := lw_main (S := (L, xs)) (d := 30) (Q := fun o h => o = .inl (some (.int 1)) ∧ h.2.2.1 ≤ 8000 ∧ h.2.2.2 ≤ 80000) hL (fun h2 h1 h3 => ⟨rfl, by omega, by omega⟩)
  refine ⟨n, z.2, ?_, q2, q3⟩
  rw [← q1]
  exact e
