/-! the reference writes a question -/
theorem ndg_4 (v : Nat) : ndg v ≤ 4 := by unfold ndg; (repeat' split) <;> omega
theorem ndg_3 {v : Nat} (h : v < 1000) : ndg v ≤ 3 := by unfold ndg; (repeat' split) <;> omega
def wrA (x v : Nat) (s : XL) : XL := wrN v (psL s (nI x))
theorem wrA_1 {x v : Nat} {s : XL} : (wrA x v s).1 = s.1 + 1 + ndg v := wrD_1
def nv (x : Int32) : Nat := x.toNatClampNeg
def wrE (e : XEst) (s : XL) : XL := wrA 99 (nv e.2.2.2.1) (wrA 45 (nv e.2.2.1) (wrA 58 (nv e.2.1) (wrA 32 (nv e.1) s)))
def wrS (E : Nat → XEst) (s : XL) : Nat → XL
  | 0 => s
  | r + 1 => wrE (E r) (wrS E s r)
def okW (e : XEst) : Prop := ∃ v0 v1 v2 v3 : Nat, (e.1 = nI v0 ∧ v0 < 1000) ∧ (e.2.1 = nI v1 ∧ v1 < 1000) ∧ (e.2.2.1 = nI v2 ∧ v2 < 1000) ∧ (e.2.2.2.1 = nI v3 ∧ v3 < 1000)
theorem nv_n {x : Int32} {v : Nat} (h : x = nI v) (hv : v < 1000) : nv x = v := by unfold nv; rw [h]; exact nI_clamp (by omega)
theorem wrE_1 {e : XEst} {s : XL} (h : okW e) : (wrE e s).1 ≤ s.1 + 16 := by
  obtain ⟨v0, v1, v2, v3, ⟨e0, h0⟩, ⟨e1, h1⟩, ⟨e2, h2⟩, ⟨e3, h3⟩⟩ := h
  unfold wrE
  rw [nv_n e0 h0, nv_n e1 h1, nv_n e2 h2, nv_n e3 h3, wrA_1, wrA_1, wrA_1, wrA_1]
  have a0 := ndg_3 h0
  have a1 := ndg_3 h1
  have a2 := ndg_3 h2
  have a3 := ndg_3 h3
  omega
theorem wrS_1 {E : Nat → XEst} {s : XL} : ∀ {r : Nat}, (∀ k, k < r → okW (E k)) → (wrS E s r).1 ≤ s.1 + 16 * r
  | 0, _ => Nat.le_refl _
  | r + 1, h => by
    have h1 := wrS_1 (s := s) (r := r) (fun k hk => h k (by omega))
    have h2 := wrE_1 (s := wrS E s r) (h r (by omega))
    show (wrE (E r) (wrS E s r)).1 ≤ _
    omega
