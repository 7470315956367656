/-! the reference: settling, postponing, leaving; what is kept -/
def sOut (x : Nat) : Prop := x < 3 ∨ (4 ≤ x ∧ x < 10) ∨ (15 ≤ x ∧ x < 20) ∨ 120 ≤ x
theorem s1G_out {G : Nat → Int32} {i j : Nat} {e : XEst} {wt t : Int32} (hi : i < 5) (h1 : 1 ≤ j) (h9 : j ≤ 9) {x : Nat} (hx : sOut x) : s1G G i j e wt t x = G x := by
  unfold sOut at hx
  unfold s1G s1A
  split
  · rw [xw_n (by omega), xw_n (by omega), xw_n (by omega), xw_n (by omega), xw_n (by omega)]
  · rw [xw_n (by omega), xw_n (by omega), xw_n (by omega)]
/-- after the first n estimates of the first question -/
def stG (G : Nat → Int32) (wt t : Int32) : Nat → (Nat → Int32)
  | 0 => G
  | n + 1 => s1G (stG G wt t n) (gE G 0 n).1.toNatClampNeg (gE G 0 n).2.2.2.1.toNatClampNeg (gE G 0 n) wt t
/-- its players and confidences are right -/
def okQ (E : Nat → XEst) (many : Nat) : Prop := ∀ r, r < many → (∃ i, i < 5 ∧ (E r).1 = nI i) ∧ xconf (E r).2.2.2.1
theorem stG_out {G : Nat → Int32} {wt t : Int32} {x : Nat} (hx : sOut x) : ∀ {n : Nat}, okQ (gE G 0) n → stG G wt t n x = G x
  | 0, _ => rfl
  | n + 1, h => by
    obtain ⟨⟨i, hi, e1⟩, hc⟩ := h n (Nat.lt_succ_self _)
    obtain ⟨j, h1, h9, e2⟩ := xconf_nI hc
    show s1G _ _ _ _ _ _ x = G x
    rw [s1G_out (by rw [e1, nI_clamp (by omega)]; exact hi) (by rw [e2, nI_clamp (by omega)]; exact h1) (by rw [e2, nI_clamp (by omega)]; exact h9) hx, stG_out hx (fun r hr => h r (by omega))]
def hitM (e : XEst) (t : Int32) : Bool := decide (xdistM e t ≤ 0)
def gSet (G : Nat → Int32) (no m sc : Nat) (t : Int32) : Nat → Int32 := xw (xw (xw (drF (stG G (G 126) t m) (no - 1)) 1 (nI (no - 1))) (5 + sc % 5) t) 4 (nI (sc + 1))
def Fm7 (f g : Nat → Option XE) (a : Nat) : Prop := ∀ c, (c ≠ a ∧ c ≠ a + 1 ∧ c ≠ a + 7) → g c = f c
theorem Fm7.wd {f g : Nat → Option XE} {a lo hi : Nat} (h : Fm7 f g a) (h1 : lo ≤ a) (h2 : a + 8 ≤ hi) : Fr f g lo hi := fun c hc => h c (by omega)
theorem Fm7.rf {f : Nat → Option XE} {a : Nat} : Fm7 f f a := fun _ _ => rfl
theorem Fm7.tr {f g k : Nat → Option XE} {a : Nat} (h : Fm7 f g a) (h2 : Fm7 g k a) : Fm7 f k a := fun c hc => (h2 c hc).trans (h c hc)
def gPst (G : Nat → Int32) (no : Nat) : Nat → Int32 := fun x => if x = 1 then nI no else if x = 120 + (no - 1) then G 120 else if x = 126 + (no - 1) then G 126 else if x = 132 + (no - 1) then G 132 else if 138 + 25 * (no - 1) ≤ x ∧ x < 138 + 25 * (no - 1) + 25 then G (138 + (x - (138 + 25 * (no - 1)))) else drF G (no - 1) x
