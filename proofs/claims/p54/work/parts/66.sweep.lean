/-! coverage: the sweep -/
def insV {α : Type} (v : Nat → α) (p : Nat) (x : α) (n : Nat) : Nat → α := fun j => if j < p then v j else if j = p then x else if j ≤ n then v (j - 1) else v j
theorem cnt_ins (q : Nat → Bool) {A : Nat → Nat} {p x n : Nat} (hp : p ≤ n) : cntB (fun j => q (insV A p x n j)) (n + 1) = cntB (fun j => q (A j)) n + (bif q x then 1 else 0) := by
  have e1 : n + 1 = p + (1 + (n - p)) := by omega
  have e2 : cntB (fun j => q (A j)) n = cntB (fun j => q (A j)) p + cntB (fun j => q (A (p + j))) (n - p) := by
    rw [← cntB_8 (fun j => q (A j)) p (n - p), show p + (n - p) = n by omega]
  rw [e1, cntB_8, cntB_8, e2]
  have f1 : cntB (fun j => q (insV A p x n j)) p = cntB (fun j => q (A j)) p := cntB_cong (fun j hj => by
    unfold insV
    rw [if_pos hj])
  have f2 : cntB (fun j => q (insV A p x n (p + j))) 1 = (bif q x then 1 else 0) := by
    rw [cntB_s, show insV A p x n (p + 0) = x from by unfold insV; rw [if_neg (by omega), if_pos (by omega)]]
    cases q x <;> rfl
  have f3 : cntB (fun j => q (insV A p x n (p + (1 + j)))) (n - p) = cntB (fun j => q (A (p + j))) (n - p) := cntB_cong (fun j hj => by
    unfold insV
    rw [if_neg (by omega), if_neg (by omega), if_pos (by omega), show p + (1 + j) - 1 = p + j by omega])
  rw [f1, f2, f3]
  omega
/-- in order -/
def srt (A : Nat → Nat) (n : Nat) : Prop := ∀ i j, i < j → j < n → A i ≤ A j
theorem insV_lt {α : Type} {v : Nat → α} {p n j : Nat} {x : α} (h : j < p) : insV v p x n j = v j := if_pos h
theorem insV_eq {α : Type} {v : Nat → α} {p n : Nat} {x : α} : insV v p x n p = x := (if_neg (Nat.lt_irrefl _)).trans (if_pos rfl)
theorem insV_gt {α : Type} {v : Nat → α} {p n j : Nat} {x : α} (h : p < j) (h2 : j ≤ n) : insV v p x n j = v (j - 1) := (if_neg (by omega)).trans ((if_neg (by omega)).trans (if_pos h2))
theorem srt_ins {A : Nat → Nat} {p x n : Nat} (hs : srt A n) (h1 : ∀ j, p ≤ j → j < n → x < A j) (h2 : ∀ j, j < p → A j ≤ x) (hp : p ≤ n) : srt (insV A p x n) (n + 1) := by
  intro i j hij hj
  rcases Nat.lt_trichotomy j p with z | z | z
  · rw [insV_lt z, insV_lt (by omega)]
    exact hs i j hij (by omega)
  · subst z
    rw [insV_eq, insV_lt hij]
    exact h2 i hij
  · rw [insV_gt z (by omega)]
    have a2 := h1 (j - 1) (by omega) (by omega)
    rcases Nat.lt_trichotomy i p with y | y | y
    · rw [insV_lt y]
      have := h2 i y
      omega
    · subst y
      rw [insV_eq]
      omega
    · rw [insV_gt y (by omega)]
      exact hs (i - 1) (j - 1) (by omega) (by omega)
/-- how many of a row in order pass: just the first ones -/
theorem srt_cnt {A : Nat → Nat} {n : Nat} (q : Nat → Bool) (hq : ∀ j, j + 1 < n → q (A (j + 1)) = true → q (A j) = true) : ∀ m, m ≤ n → ∀ j, j < m → (q (A j) = true ↔ j < cntB (fun j => q (A j)) m) := by
  intro m
  induction m with
  | zero => intro _ j hj; exact absurd hj (Nat.not_lt_zero _)
  | succ m ih =>
    intro hm j hj
    have hc := cntB_le (fun j => q (A j)) m
    have i := ih (by omega)
    rw [cntB_s]
    cases hx : q (A m) with
    | true =>
      have hall : cntB (fun j => q (A j)) m = m := by
        rcases Nat.eq_zero_or_pos m with z | z
        · subst z; rfl
        · have h1 := hq (m - 1) (by omega) (by rw [show m - 1 + 1 = m by omega]; exact hx)
          have h2 := (i (m - 1) (by omega)).mp h1
          omega
      rw [cond_true, hall]
      by_cases z : j = m
      · subst z
        exact ⟨fun _ => by omega, fun _ => hx⟩
      · have h3 := i j (by omega)
        rw [hall] at h3
        exact ⟨fun _ => by omega, fun _ => h3.mpr (by omega)⟩
    | false =>
      rw [cond_false]
      by_cases z : j = m
      · subst z
        rw [hx]
        exact ⟨fun y => Bool.noConfusion y, fun y => by omega⟩
      · exact i j (by omega)
/-- the sweep's choice: the first of the greatest -/
def swp (fv : Nat → Nat) : Nat → Option Nat
  | 0 => none
  | n + 1 => if (match swp fv n with | none => 0 | some j => fv j) < fv n then some n else swp fv n
def swM (fv : Nat → Nat) (o : Option Nat) : Nat := match o with
  | none => 0
  | some j => fv j
theorem swp_s {fv : Nat → Nat} {n : Nat} : swp fv (n + 1) = if swM fv (swp fv n) < fv n then some n else swp fv n := rfl
theorem swp_inv (fv : Nat → Nat) : ∀ n, (∀ j, j < n → fv j ≤ swM fv (swp fv n)) ∧ ∀ j, swp fv n = some j → j < n ∧ ∀ i, i < j → fv i < fv j := by
  intro n
  induction n with
  | zero => exact ⟨fun j hj => absurd hj (Nat.not_lt_zero _), fun j hj => by cases hj⟩
  | succ n ih =>
    obtain ⟨i1, i2⟩ := ih
    rw [swp_s]
    split
    · rename_i z
      refine ⟨fun j hj => ?_, fun j hj => ?_⟩
      · show fv j ≤ fv n
        by_cases y : j = n
        · rw [y]; exact Nat.le_refl _
        · have := i1 j (by omega)
          omega
      · cases hj
        refine ⟨Nat.lt_succ_self _, fun i hi => ?_⟩
        have := i1 i hi
        omega
    · rename_i z
      refine ⟨fun j hj => ?_, fun j hj => ?_⟩
      · by_cases y : j = n
        · rw [y]; omega
        · exact i1 j (by omega)
      · obtain ⟨a1, a2⟩ := i2 j hj
        exact ⟨by omega, a2⟩
/-- what the sweep knows: rows in order, as many below each value as the ends -/
theorem sweep_best {E : Nat → XEst} {L U A B : Nat → Nat} {n : Nat} (hE : endsE E n L U) (h0 : 0 < n) (sA : srt A n) (sB : srt B n)
    (cA : ∀ x, cntB (fun j => decide (A j ≤ x)) n = cntB (fun r => decide (L r ≤ x)) n) (cB : ∀ x, cntB (fun j => decide (B j < x)) n = cntB (fun r => decide (U r < x)) n) :
    ∃ j, j < n ∧ swp (fun b => b + 1 - cntB (fun i => decide (B i < A b)) n) n = some j ∧ (mstV E n 999).1 = A j := by
  have cv : ∀ x, x < 1024 → ∀ m, m ≤ n → xcov E (nI x) m + cntB (fun r => decide (U r < x)) m = cntB (fun r => decide (L r ≤ x)) m := by
    intro x hx m
    induction m with
    | zero => intro _; rfl
    | succ m ih =>
      intro hm
      have i := ih (by omega)
      have h4 := hE m (by omega)
      rw [xcov_s (hE.lt hm) hx, cntB_s, cntB_s]
      by_cases z1 : L m ≤ x
      · rw [decide_eq_true z1, cond_true]
        by_cases z2 : U m < x
        · rw [decide_eq_true z2, cond_true, if_neg (by omega)]; omega
        · rw [decide_eq_false z2, cond_false, if_pos (by omega)]; omega
      · rw [decide_eq_false z1, cond_false, decide_eq_false (by omega), cond_false, if_neg (by omega)]; omega
  have cx : ∀ x, x < 1024 → xcov E (nI x) n + cntB (fun j => decide (B j < x)) n = cntB (fun j => decide (A j ≤ x)) n := fun x hx => by rw [cA, cB]; exact cv x hx n (Nat.le_refl _)
  have rA : ∀ x j, j < n → (A j ≤ x ↔ j < cntB (fun j => decide (A j ≤ x)) n) := fun x j hj => by
    rw [← srt_cnt (fun y => decide (y ≤ x)) (fun j hj h => decide_eq_true (Nat.le_trans (sA j (j + 1) (by omega) hj) (of_decide_eq_true h))) n (Nat.le_refl _) j hj]
    exact ⟨fun h => decide_eq_true h, fun h => of_decide_eq_true h⟩
  have hAle : ∀ j, j < n → A j ≤ 999 := fun j hj => by
    have h1 : cntB (fun r => decide (L r ≤ 999)) n = n := by
      have : ∀ m, m ≤ n → cntB (fun r => decide (L r ≤ 999)) m = m := by
        intro m
        induction m with
        | zero => intro _; rfl
        | succ m ih =>
          intro hm
          have h4 := hE m (by omega)
          rw [cntB_s, decide_eq_true (by omega), ih (by omega)]
          rfl
      exact this n (Nat.le_refl _)
    rw [rA 999 j hj, cA, h1]
    exact hj
  have monoB : ∀ x y, x ≤ y → cntB (fun j => decide (B j < x)) n ≤ cntB (fun j => decide (B j < y)) n := by
    intro x y hxy
    have : ∀ m, cntB (fun j => decide (B j < x)) m ≤ cntB (fun j => decide (B j < y)) m := by
      intro m
      induction m with
      | zero => exact Nat.le_refl _
      | succ m ih =>
        rw [cntB_s, cntB_s]
        by_cases z : B m < x
        · rw [decide_eq_true z, decide_eq_true (show B m < y by omega), cond_true, cond_true]; omega
        · rw [decide_eq_false z, cond_false]
          cases decide (B m < y)
          · exact ih
          · exact Nat.le_succ_of_le ih
    exact this n
  -- to every value a low one that is covered as much
  have low : ∀ x, x < 1024 → 0 < xcov E (nI x) n → ∃ j, j < n ∧ A j ≤ x ∧ xcov E (nI x) n ≤ j + 1 - cntB (fun i => decide (B i < A j)) n := by
    intro x hx h1
    have h2 := cx x hx
    have hcl := cntB_le (fun j => decide (A j ≤ x)) n
    obtain ⟨c, hc⟩ : ∃ c, cntB (fun j => decide (A j ≤ x)) n = c + 1 := ⟨cntB (fun j => decide (A j ≤ x)) n - 1, by omega⟩
    have h3 : A c ≤ x := (rA x c (by omega)).mpr (by omega)
    have h4 := monoB (A c) x h3
    exact ⟨c, by omega, h3, by omega⟩
  have fle : ∀ j, j < n → j + 1 - cntB (fun i => decide (B i < A j)) n ≤ xcov E (nI (A j)) n := by
    intro j hj
    have h1 := cx (A j) (by have := hAle j hj; omega)
    have h2 := (rA (A j) j hj).mp (Nat.le_refl _)
    omega
  obtain ⟨s1, s2⟩ := swp_inv (fun b => b + 1 - cntB (fun i => decide (B i < A b)) n) n
  have h1 := xcov_one hE h0
  have hL0 := hE 0 h0
  obtain ⟨j0, g1, g2, g3⟩ := low (L 0) (by omega) (by omega)
  have g4 := s1 j0 g1
  cases hs : swp (fun b => b + 1 - cntB (fun i => decide (B i < A b)) n) n with
  | none => rw [hs] at g4; have g4 : _ ≤ 0 := g4; omega
  | some j =>
    obtain ⟨u1, u2⟩ := s2 j hs
    rw [hs] at s1
    have s1 : ∀ i, i < n → i + 1 - cntB (fun x => decide (B x < A i)) n ≤ j + 1 - cntB (fun x => decide (B x < A j)) n := s1
    have u2 : ∀ i, i < j → i + 1 - cntB (fun x => decide (B x < A i)) n < j + 1 - cntB (fun x => decide (B x < A j)) n := u2
    refine ⟨j, u1, rfl, ?_⟩
    have hAj := hAle j u1
    have hall : ∀ x, x ≤ 999 → xcov E (nI x) n ≤ j + 1 - cntB (fun i => decide (B i < A j)) n := by
      intro x hx
      rcases Nat.eq_zero_or_pos (xcov E (nI x) n) with z | z
      · omega
      · obtain ⟨i, i1, i2, i3⟩ := low x (by omega) z
        have := s1 i i1
        omega
    have e1 : xcov E (nI (A j)) n = j + 1 - cntB (fun i => decide (B i < A j)) n := Nat.le_antisymm (hall _ hAj) (fle j u1)
    refine mst_eq hAj e1 hall (fun x hx => ?_)
    rcases Nat.eq_zero_or_pos (xcov E (nI x) n) with z | z
    · have := s1 j0 g1
      omega
    · obtain ⟨i, i1, i2, i3⟩ := low x (by omega) z
      have hij : i < j := by
        rcases Nat.lt_trichotomy i j with y | y | y
        · exact y
        · subst y; omega
        · have := sA j i y i1; omega
      have := u2 i hij
      omega
