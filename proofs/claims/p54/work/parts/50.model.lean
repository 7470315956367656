/-! the reference: its own object and rows; what its row of 288 shows -/
abbrev mO (a : Nat) (ch sv ty ea fa ol th sp wr : Int32) : List Value := [.ref (a + 1), .ref (a + 2), .ref (a + 3), .int ch, .ref (a + 4), .int sv, .ref (a + 5), .int ty, .int ea, .int fa, .ref (a + 6), .int ol, .int th, .ref (a + 7), .int sp, .int wr, .ref (a + 8)]
def gE (G : Nat → Int32) (i : Nat) (r : Nat) : XEst := (G (138 + 25 * i + 5 * r + 0), (G (138 + 25 * i + 5 * r + 1), (G (138 + 25 * i + 5 * r + 2), (G (138 + 25 * i + 5 * r + 3), G (138 + 25 * i + 5 * r + 4)))))
def gQ (G : Nat → Int32) (mn : Nat → Nat) (i : Nat) : XQu := (G (120 + i), (G (126 + i), (mn i, gE G i)))
/-- a row of nine, as the class keeps it -/
def gB (G : Nat → Int32) (at_ : Nat) (j : Nat) : Int32 := if j = 0 then 0 else G (at_ + j - 1)
def gP (G : Nat → Int32) (i : Nat) : XPl := (G (10 + i), (G (20 + i), (decide (G (15 + i) = 1), (gB G (30 + 9 * i), gB G (75 + 9 * i)))))
/-- players, open questions, how many estimates each -/
def WG (G : Nat → Int32) (np no : Nat) (mn : Nat → Nat) : Prop := (G 0 = nI np ∧ np ≤ 5) ∧ (G 1 = nI no ∧ no ≤ 6) ∧ ∀ i, i < 6 → G (132 + i) = nI (mn i) ∧ mn i ≤ 5
abbrev XR : Type := Nat × Int32
