/-! the reference's changes -/
def Fm (f g : Nat → Option XE) (a : Nat) : Prop := ∀ c, (c ≠ a ∧ c ≠ a + 1) → g c = f c
theorem Fm.wd {f g : Nat → Option XE} {a lo hi : Nat} (h : Fm f g a) (h1 : lo ≤ a) (h2 : a + 2 ≤ hi) : Fr f g lo hi := fun c hc => h c (by omega)
theorem Fm.rf {f : Nat → Option XE} {a : Nat} : Fm f f a := fun _ _ => rfl
theorem Fm.tr {f g k : Nat → Option XE} {a : Nat} (h : Fm f g a) (h2 : Fm g k a) : Fm f k a := fun c hc => (h2 c hc).trans (h c hc)
def gAsk (G : Nat → Int32) (no : Nat) (w : Int32) : Nat → Int32 := xw (xw (xw (xw (xw G (120 + no) (G 2)) (126 + no) w) (132 + no) 0) 1 (nI (no + 1))) 2 (G 2 + 1)
def gBet (G : Nat → Int32) (i j m : Nat) (lo hi c s : Int32) : Nat → Int32 := xw (xw (xw (xw (xw (xw (xw G (138 + 25 * j + 5 * m + 0) (nI i)) (138 + 25 * j + 5 * m + 1) lo) (138 + 25 * j + 5 * m + 2) hi) (138 + 25 * j + 5 * m + 3) c) (138 + 25 * j + 5 * m + 4) s) (132 + j) (nI (m + 1))) (10 + i) (G (10 + i) - s)
def xdistM (e : XEst) (t : Int32) : Int32 := if t < e.2.1 then e.2.1 - t else if e.2.2.1 < t then t - e.2.2.1 else 0
def xptsM (e : XEst) (t : Int32) : Int32 := e.2.2.1 - e.2.1 + 20 * xdistM e t / (10 - e.2.2.2.1)
def s1A (G : Nat → Int32) (i j : Nat) (e : XEst) (wt t : Int32) : Nat → Int32 := xw (xw G (20 + i) (G (20 + i) + wt * xptsM e t)) (30 + (9 * i + j - 1)) (G (30 + (9 * i + j - 1)) + 1)
def s1G (G : Nat → Int32) (i j : Nat) (e : XEst) (wt t : Int32) : Nat → Int32 := if xdistM e t ≤ 0 then xw (xw (xw (s1A G i j e wt t) (75 + (9 * i + j - 1)) (G (75 + (9 * i + j - 1)) + 1)) (10 + i) (G (10 + i) + (e.2.2.2.2 + xprize e))) 3 (G 3 - xprize e) else xw (s1A G i j e wt t) 3 (G 3 + e.2.2.2.2)
/-- the first n blocks come from one place further on -/
def drF (G : Nat → Int32) (n : Nat) : Nat → Int32 := fun x => if 120 ≤ x ∧ x < 120 + n then G (x + 1) else if 126 ≤ x ∧ x < 126 + n then G (x + 1) else if 132 ≤ x ∧ x < 132 + n then G (x + 1) else if 138 ≤ x ∧ x < 138 + 25 * n then G (x + 25) else G x
