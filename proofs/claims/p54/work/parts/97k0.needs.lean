/-! the law: what the calls that change it need -/
theorem hit_eq {E F : Nat → XEst} {np k : Nat} (hk : k ≤ 999) : ∀ n, (∀ r, r < n → E r = F r) → (∀ r, r < n → okEst np (F r)) → hitN E (nI k) n = cntB (fun r => hitM (F r) (nI k)) n
  | 0, _, _ => rfl
  | n + 1, h, ok => by
    obtain ⟨-, ⟨l, u, e1, e2, h1, h2⟩, -⟩ := ok n (by omega)
    have ih := hit_eq hk n (fun r hr => h r (by omega)) (fun r hr => ok r (by omega))
    rw [hitN_s, cntB_s, ih, h n (by omega), (xdist_eq e1 e2 h1 h2 hk).2]
    rfl
