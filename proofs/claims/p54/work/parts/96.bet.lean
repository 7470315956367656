/-! the reference's parser: a bet -/
def Fp8 (f g : Nat → Option XE) (a : Nat) : Prop := ∀ c, (c ≠ a ∧ c ≠ a + 8) → g c = f c
theorem Fp8.tr {f g k : Nat → Option XE} {a : Nat} (h : Fp8 f g a) (h2 : Fp8 g k a) : Fp8 f k a := fun c hc => (h2 c hc).trans (h c hc)
theorem Fp8.o {f g : Nat → Option XE} {a : Nat} (h : Fr f g a (a + 1)) : Fp8 f g a := fun c hc => h c (by omega)
