/-! the reference runs its commands -/
theorem Fp8.rf {f : Nat → Option XE} {a : Nat} : Fp8 f f a := fun _ _ => rfl
theorem Fp8.wd {f g : Nat → Option XE} {a lo hi : Nat} (h : Fp8 f g a) (h1 : lo ≤ a) (h2 : a + 9 ≤ hi) : Fr f g lo hi := fun c hc => h c (by omega)
