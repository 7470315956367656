/-! how the third contest's estimates cover the values -/
theorem zcov_s {E : Nat → XEst} {v : Int32} {n : Nat} : xcov E v (n + 1) = if (E n).2.1 ≤ v ∧ v ≤ (E n).2.2.1 then xcov E v n + 1 else xcov E v n := rfl
theorem in_nI {x y : Int32} {l u v : Nat} (h1 : x = nI l) (h2 : y = nI u) (hl : l ≤ 100000) (hu : u ≤ 100000) (hv : v ≤ 100000) : (x ≤ nI v ∧ nI v ≤ y) ↔ (l ≤ v ∧ v ≤ u) := by
  rw [nI_leN h1 rfl (by omega) (by omega), nI_leN rfl h2 (by omega) (by omega)]
theorem zA_add (k m : Nat) : zA k + nI m = nI (100 + k + m) := nI_add (100 + k) m
def zcN (k v : Nat) : Nat := (if 140 + k ≤ v ∧ v ≤ 145 + k then 1 else 0) + ((if 110 + k ≤ v ∧ v ≤ 150 + k then 1 else 0) + (if 100 + k ≤ v ∧ v ≤ 120 + k then 1 else 0))
theorem ite_cg {P Q : Prop} [Decidable P] [Decidable Q] {x y : Nat} (h : P ↔ Q) : (if P then x else y) = if Q then x else y := by
  by_cases q : Q
  · rw [if_pos q, if_pos (h.mpr q)]
  · rw [if_neg q, if_neg (fun z => q (h.mp z))]
theorem zcov {k v : Nat} (hk : k < 64) (hv : v ≤ 1000) : xcov (gE (z4T (zA k)) 0) (nI v) 3 = zcN k v := by
  have c0 : ((gE (z4T (zA k)) 0 0).2.1 ≤ nI v ∧ nI v ≤ (gE (z4T (zA k)) 0 0).2.2.1) ↔ (100 + k ≤ v ∧ v ≤ 120 + k) := by
    have e := in_nI (x := (gE (z4T (zA k)) 0 0).2.1) (y := (gE (z4T (zA k)) 0 0).2.2.1) (l := 100 + k) (u := 100 + k + 20) (v := v) rfl (zA_add k 20) (by omega) (by omega) (by omega)
    rw [e]
    omega
  have c1 : ((gE (z4T (zA k)) 0 1).2.1 ≤ nI v ∧ nI v ≤ (gE (z4T (zA k)) 0 1).2.2.1) ↔ (110 + k ≤ v ∧ v ≤ 150 + k) := by
    have e := in_nI (x := (gE (z4T (zA k)) 0 1).2.1) (y := (gE (z4T (zA k)) 0 1).2.2.1) (l := 100 + k + 10) (u := 100 + k + 50) (v := v) (zA_add k 10) (zA_add k 50) (by omega) (by omega) (by omega)
    rw [e]
    omega
  have c2 : ((gE (z4T (zA k)) 0 2).2.1 ≤ nI v ∧ nI v ≤ (gE (z4T (zA k)) 0 2).2.2.1) ↔ (140 + k ≤ v ∧ v ≤ 145 + k) := by
    have e := in_nI (x := (gE (z4T (zA k)) 0 2).2.1) (y := (gE (z4T (zA k)) 0 2).2.2.1) (l := 100 + k + 40) (u := 100 + k + 45) (v := v) (zA_add k 40) (zA_add k 45) (by omega) (by omega) (by omega)
    rw [e]
    omega
  have z0 : xcov (gE (z4T (zA k)) 0) (nI v) 0 = 0 := rfl
  rw [zcov_s, zcov_s, zcov_s, z0]
  rw [ite_cg c0, ite_cg c1, ite_cg c2]
  unfold zcN
  by_cases h0 : 100 + k ≤ v ∧ v ≤ 120 + k <;> by_cases h1 : 110 + k ≤ v ∧ v ≤ 150 + k <;> by_cases h2 : 140 + k ≤ v ∧ v ≤ 145 + k <;> simp only [h0, h1, h2, if_true, if_false, and_self] <;> rfl
theorem zcN_v {k v : Nat} : (v < 100 + k → zcN k v = 0) ∧ (100 + k ≤ v → v < 110 + k → zcN k v = 1) ∧ zcN k (110 + k) = 2 ∧ zcN k v ≤ 2 ∧ (0 < zcN k v ↔ (100 + k ≤ v ∧ v ≤ 150 + k)) := by
  unfold zcN
  refine ⟨fun h => ?_, fun h1 h2 => ?_, ?_, ?_, ?_⟩
  · rw [if_neg (by omega), if_neg (by omega), if_neg (by omega)]
  · rw [if_neg (by omega), if_neg (by omega), if_pos (by omega)]
  · rw [if_neg (by omega), if_pos (by omega), if_pos (by omega)]
  · split <;> split <;> split <;> omega
  · split <;> split <;> split <;> omega
theorem z_mst {k : Nat} (hk : k < 64) : ∀ n, n ≤ 999 → mstV (gE (z4T (zA k)) 0) 3 n = if n < 100 + k then (0, 0) else if n < 110 + k then (100 + k, 1) else (110 + k, 2)
  | 0, _ => by
    show (0, xcov (gE (z4T (zA k)) 0) (nI 0) 3) = _
    rw [zcov hk (by omega), zcN_v.1 (by omega), if_pos (by omega)]
  | n + 1, h => by
    have ih := z_mst hk n (by omega)
    show (if (mstV (gE (z4T (zA k)) 0) 3 n).2 < xcov (gE (z4T (zA k)) 0) (nI (n + 1)) 3 then (n + 1, xcov (gE (z4T (zA k)) 0) (nI (n + 1)) 3) else mstV (gE (z4T (zA k)) 0) 3 n) = _
    rw [zcov hk (by omega), ih]
    obtain ⟨a1, a2, a3, a4, -⟩ := zcN_v (k := k) (v := n + 1)
    by_cases h1 : n + 1 < 100 + k
    · rw [if_pos h1, a1 h1, if_pos (show n < 100 + k by omega), if_neg (Nat.not_lt_zero _)]
    · rw [if_neg h1]
      by_cases h2 : n + 1 < 110 + k
      · rw [if_pos h2, a2 (by omega) h2]
        by_cases h3 : n < 100 + k
        · rw [if_pos h3, if_pos (by show 0 < 1; omega)]
          have e : n + 1 = 100 + k := by omega
          rw [e]
        · rw [if_neg h3, if_pos (show n < 110 + k by omega), if_neg (by show ¬ 1 < 1; omega)]
      · rw [if_neg h2]
        by_cases h3 : n < 110 + k
        · have e : n + 1 = 110 + k := by omega
          rw [e, a3, if_neg (show ¬ n < 100 + k by omega), if_pos h3, if_pos (by show 1 < 2; omega)]
        · rw [if_neg (show ¬ n < 100 + k by omega), if_neg h3, if_neg (by show ¬ 2 < _; omega)]
theorem z_num {k : Nat} (hk : k < 64) : ∀ n, n ≤ 1000 → numV (gE (z4T (zA k)) 0) 3 n = min (n - (100 + k)) 51
  | 0, _ => by
    show 0 = _
    omega
  | n + 1, h => by
    have ih := z_num hk n (by omega)
    have e : numV (gE (z4T (zA k)) 0) 3 (n + 1) = cntB (fun v => decide (0 < xcov (gE (z4T (zA k)) 0) (nI v) 3)) (n + 1) := rfl
    have e2 : numV (gE (z4T (zA k)) 0) 3 n = cntB (fun v => decide (0 < xcov (gE (z4T (zA k)) 0) (nI v) 3)) n := rfl
    rw [e, cntB_s, ← e2, ih, zcov hk (by omega)]
    have a5 := (zcN_v (k := k) (v := n)).2.2.2.2
    by_cases h1 : 100 + k ≤ n ∧ n ≤ 150 + k
    · rw [decide_eq_true (a5.mpr h1)]
      simp only [cond_true]
      omega
    · rw [decide_eq_false (fun z => h1 (a5.mp z))]
      simp only [cond_false]
      omega
theorem z_pla : ∀ k, k < 64 → pla (gQ (z4T (zA k)) (mnG (z4T (zA k)))) (noG (z4T (zA k))) 0 = 0 ∧ noG (z4T (zA k)) = 2 ∧ mnG (z4T (zA k)) 0 = 3 := by decide +kernel
theorem zq_108 {k : Nat} (hk : k < 64) : R_mst (gQ (z4T (zA k)) (mnG (z4T (zA k)))) (noG (z4T (zA k))) 0 = (0, zA k + 10) := by
  obtain ⟨e1, e2, e3⟩ := z_pla k hk
  have e4 : (gQ (z4T (zA k)) (mnG (z4T (zA k))) 0).2.2.1 = 3 := e3
  unfold R_mst
  rw [e1, e2, e4, if_pos ⟨by omega, by omega⟩]
  have e5 := z_mst hk 999 (by omega)
  have e6 : (gQ (z4T (zA k)) (mnG (z4T (zA k))) 0).2.2.2 = gE (z4T (zA k)) 0 := rfl
  rw [e6, e5, if_neg (by omega), if_neg (by omega)]
  show ((0, nI (110 + k)) : XR) = (0, zA k + nI 10)
  rw [zA_add, show 100 + k + 10 = 110 + k by omega]
theorem zq_110 {k : Nat} (hk : k < 64) : R_q (gQ (z4T (zA k)) (mnG (z4T (zA k)))) (noG (z4T (zA k))) 0 (fun q => nI (numV q.2.2.2 q.2.2.1 1000)) = (0, 51) := by
  obtain ⟨e1, e2, e3⟩ := z_pla k hk
  have e4 : (gQ (z4T (zA k)) (mnG (z4T (zA k))) 0).2.2.1 = 3 := e3
  rw [R_q_k (by omega), e1, e4]
  have e5 := z_num hk 1000 (by omega)
  have e6 : (gQ (z4T (zA k)) (mnG (z4T (zA k))) 0).2.2.2 = gE (z4T (zA k)) 0 := rfl
  rw [e6, e5, show min (1000 - (100 + k)) 51 = 51 by omega]
  rfl
/-- the written line -/
def zLine (a : Nat) : XL := psT (wrN (a + 45) (psT (wrN (a + 40) (psT (wrN (a + 50) (psT (wrN (a + 10) (psT (wrN (a + 20) (psT (wrN a (psT (0, zN) (xfB 21))) (xfB 22))) (xfB 23))) (xfB 22))) (xfB 24))) (xfB 22))) (xfB 25)
theorem z_line : ∀ k, k < 64 → (wrG (z4T (zA k)) 0).1 = 40 ∧ (zLine (100 + k)).1 = 40 ∧ ∀ i, i < 40 → (wrG (z4T (zA k)) 0).2 i = (zLine (100 + k)).2 i := by decide +kernel
