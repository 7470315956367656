/-! the reference writes -/
def Fl6 (f g : Nat → Option XE) (a : Nat) : Prop := ∀ c, (c ≠ a ∧ c ≠ a + 6) → g c = f c
theorem Fl6.rf {f : Nat → Option XE} {a : Nat} : Fl6 f f a := fun _ _ => rfl
theorem Fl6.tr {f g k : Nat → Option XE} {a : Nat} (h : Fl6 f g a) (h2 : Fl6 g k a) : Fl6 f k a := fun c hc => (h2 c hc).trans (h c hc)
abbrev XL : Type := Nat × (Nat → Int32)
def p10 (k : Nat) : Nat := match k with
  | 0 => 1
  | 1 => 10
  | 2 => 100
  | _ => 1000
def psL (s : XL) (x : Int32) : XL := (s.1 + 1, xw s.2 s.1 x)
/-- the last k digits of v -/
def wrD (v : Nat) : Nat → XL → XL
  | 0, s => s
  | k + 1, s => wrD v k (psL s (nI (48 + v / p10 k % 10)))
def ndg (v : Nat) : Nat := if v < 10 then 1 else if v < 100 then 2 else if v < 1000 then 3 else 4
def wrN (v : Nat) (s : XL) : XL := wrD v (ndg v) s
theorem wrD_1 {v : Nat} : ∀ {k : Nat} {s : XL}, (wrD v k s).1 = s.1 + k
  | 0, s => rfl
  | k + 1, s => by
    show (wrD v k _).1 = _
    rw [wrD_1]
    show s.1 + 1 + k = _
    omega
theorem chr_ok {k : Nat} (hk : k < 128) : ((nI k).toUInt32 % 65536).toInt32 = nI k ∧ vp_nar .char (nI k) = nI k := by
  have e : ∀ k : Fin 128, ((nI k.val).toUInt32 % 65536).toInt32 = nI k.val ∧ vp_nar .char (nI k.val) = nI k.val := by decide +kernel
  exact e ⟨k, hk⟩
