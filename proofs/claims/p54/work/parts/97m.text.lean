/-! the law: what is written, the text, means and shares -/
def DV (f : Nat → Option XE) (a : Nat) (x : UInt64) : Prop := ∃ F : Nat → UInt64, f a = some (.inl (2, (1, .inr (.inr (.inr (.inl F)))))) ∧ F 0 = x
theorem DV.fr {f g : Nat → Option XE} {a : Nat} {x : UInt64} (h : DV f a x) (e : g a = f a) : DV g a x := by
  obtain ⟨F, h1, h2⟩ := h
  exact ⟨F, e.trans h1, h2⟩
section XDV
variable {S : XSc} {d mid pc : Nat} {lv : XLv} {st : List Value} {h : XH} {Q : XO → XH → Prop} {k0 : XK} {a : Nat}
end XDV
