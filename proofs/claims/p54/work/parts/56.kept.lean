/-! the reference: what it keeps -/
def MdP (f : Nat → Option XE) (a : Nat) (G B H Sv Bu Le Mo Pa : Nat → Int32) (ch sv ty ea fa ol th sp wr : Int32) : Prop :=
  f a = some (.inr (9, mO a ch sv ty ea fa ol th sp wr)) ∧ IA f 0 (a + 1) 288 G ∧ IA f 0 (a + 2) 288 B ∧ IA f 0 (a + 3) 2304 H ∧ IA f 0 (a + 4) 288 Sv ∧ IA f 3 (a + 5) 60 Bu ∧ IA f 3 (a + 6) 100 Le ∧ IA f 0 (a + 7) 28 Mo ∧ IA f 0 (a + 8) 420 Pa
theorem MdP.fr {f g : Nat → Option XE} {a : Nat} {G B H Sv Bu Le Mo Pa : Nat → Int32} {ch sv ty ea fa ol th sp wr : Int32} (h : MdP f a G B H Sv Bu Le Mo Pa ch sv ty ea fa ol th sp wr) (e : ∀ c, a ≤ c → c < a + 9 → g c = f c) : MdP g a G B H Sv Bu Le Mo Pa ch sv ty ea fa ol th sp wr := by
  obtain ⟨h0, h1, h2, h3, h4, h5, h6, h7, h8⟩ := h
  exact ⟨(e _ (by omega) (by omega)).trans h0, h1.fr (e _ (by omega) (by omega)), h2.fr (e _ (by omega) (by omega)), h3.fr (e _ (by omega) (by omega)), h4.fr (e _ (by omega) (by omega)), h5.fr (e _ (by omega) (by omega)), h6.fr (e _ (by omega) (by omega)), h7.fr (e _ (by omega) (by omega)), h8.fr (e _ (by omega) (by omega))⟩
def Fh (f g : Nat → Option XE) (a : Nat) : Prop := ∀ c, (c ≠ a ∧ c ≠ a + 3) → g c = f c
theorem Fh.wd {f g : Nat → Option XE} {a lo hi : Nat} (h : Fh f g a) (h1 : lo ≤ a) (h2 : a + 4 ≤ hi) : Fr f g lo hi := fun c hc => h c (by omega)
theorem Fh.rf {f : Nat → Option XE} {a : Nat} : Fh f f a := fun _ _ => rfl
theorem Fh.tr {f g k : Nat → Option XE} {a : Nat} (h : Fh f g a) (h2 : Fh g k a) : Fh f k a := fun c hc => (h2 c hc).trans (h c hc)
/-- a state goes behind the kept ones; eight are kept -/
def psh (c : Nat) (H B : Nat → Int32) : Nat → Int32 := if c < 8 then (fun j => if c * 288 ≤ j ∧ j < c * 288 + 288 then B (j - c * 288) else H j) else (fun j => if j < 2016 then H (j + 288) else B (j - 2016))
