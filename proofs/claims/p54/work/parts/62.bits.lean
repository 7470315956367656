/-! bits and what they say of intervals -/
def bitL (x : Int64) (k : Nat) : Bool := x.toBitVec.getLsbD k
theorem bitL_and (x y : Int64) (k : Nat) : bitL (x &&& y) k = (bitL x k && bitL y k) := by
  unfold bitL
  rw [Int64.toBitVec_and, BitVec.getLsbD_and]
theorem bitL_or (x y : Int64) (k : Nat) : bitL (x ||| y) k = (bitL x k || bitL y k) := by
  unfold bitL
  rw [Int64.toBitVec_or, BitVec.getLsbD_or]
theorem bitL_0 (k : Nat) : bitL 0 k = false := by
  unfold bitL
  exact BitVec.getLsbD_zero
theorem bitL_ext {x : Int64} (h : ∀ k, k < 64 → bitL x k = false) : x = 0 := by
  apply Int64.toBitVec_inj.mp
  apply BitVec.eq_of_getLsbD_eq
  intro k hk
  exact (h k hk).trans (bitL_0 k).symm
theorem bit_shl : ∀ f, f < 64 → ∀ k, k < 64 → bitL (shlL f) k = decide (f ≤ k) := by decide +kernel
theorem bit_shr : ∀ g, g < 64 → ∀ k, k < 64 → bitL (shrL g) k = decide (k + g < 64) := by decide +kernel
theorem bit_iv {l u w k : Nat} (hk : k < 64) : bitL (ivb l u w) k = decide (l ≤ 64 * w + k ∧ 64 * w + k ≤ u) := by
  unfold ivb
  split
  · rename_i h
    rw [bitL_and, bit_shl _ (by omega) k hk, bit_shr _ (by omega) k hk, ← Bool.decide_and]
    refine decide_eq_decide.mpr ?_
    omega
  · rw [bitL_0]
    symm
    refine decide_eq_false ?_
    omega
/-- after the first n intervals -/
def fillW (W : Nat → Nat → Int64) (L U : Nat → Nat) : Nat → (Nat → Nat → Int64)
  | 0 => fun v w => if v = 0 then W 0 w else 0
  | n + 1 => addW (fillW W L U n) (L n) (U n) (n + 1)
def setB (R : Nat → Int64) (v : Nat) : Bool := bitL (R (v / 64)) (v % 64)
/-- the estimates' ends, in numbers -/
def endsE (E : Nat → XEst) (many : Nat) (L U : Nat → Nat) : Prop := ∀ r, r < many → (E r).2.1 = nI (L r) ∧ (E r).2.2.1 = nI (U r) ∧ L r ≤ U r ∧ U r ≤ 999
theorem xcov_s {E : Nat → XEst} {L U : Nat → Nat} {n v : Nat} (h : endsE E (n + 1) L U) (hv : v < 1024) : xcov E (nI v) (n + 1) = if L n ≤ v ∧ v ≤ U n then xcov E (nI v) n + 1 else xcov E (nI v) n := by
  obtain ⟨h1, h2, h3, h4⟩ := h n (Nat.lt_succ_self _)
  show (if (E n).2.1 ≤ nI v ∧ nI v ≤ (E n).2.2.1 then _ else _) = _
  have e1 := nI_leI (a := L n) (b := v) (by omega) (by omega)
  have e2 := nI_leI (a := v) (b := U n) (by omega) (by omega)
  by_cases z : L n ≤ v ∧ v ≤ U n
  · rw [if_pos z]
    exact if_pos (by rw [h1, h2]; exact ⟨e1.mpr z.1, e2.mpr z.2⟩)
  · rw [if_neg z]
    exact if_neg (by rw [h1, h2]; exact fun y => z ⟨e1.mp y.1, e2.mp y.2⟩)
theorem endsE.lt {E : Nat → XEst} {L U : Nat → Nat} {n m : Nat} (h : endsE E m L U) (hn : n ≤ m) : endsE E n L U := fun r hr => h r (by omega)
theorem fill_bits {W : Nat → Nat → Int64} {E : Nat → XEst} {L U : Nat → Nat} {v : Nat} (hv : v < 1024) : ∀ {n : Nat}, endsE E n L U → ∀ {lv : Nat}, 1 ≤ lv → setB (fillW W L U n lv) v = decide (lv ≤ xcov E (nI v) n) := by
  intro n
  induction n with
  | zero =>
    intro _ lv h1
    show bitL (if lv = 0 then W 0 (v / 64) else 0) (v % 64) = _
    rw [if_neg (by omega), bitL_0]
    exact (decide_eq_false (by show ¬ lv ≤ 0; omega)).symm
  | succ n ih =>
    intro h lv h1
    have hk : v % 64 < 64 := Nat.mod_lt _ (by omega)
    have hs := xcov_s h hv
    have hle := xcov_le E (nI v) n
    have i1 := ih (h.lt (Nat.le_succ _)) h1
    have hd : 64 * (v / 64) + v % 64 = v := Nat.div_add_mod v 64
    show bitL (addW (fillW W L U n) (L n) (U n) (n + 1) lv (v / 64)) (v % 64) = _
    unfold addW
    split
    · rename_i z
      have hz : n + 1 < lv := by omega
      refine Eq.trans i1 ?_
      refine decide_eq_decide.mpr ?_
      rw [hs]
      split <;> omega
    · split
      · rename_i z1 z2
        subst z2
        rw [bitL_or, bit_iv hk, hd, show bitL (fillW W L U n 1 (v / 64)) (v % 64) = _ from i1, ← Bool.decide_or]
        refine decide_eq_decide.mpr ?_
        rw [hs]
        split <;> omega
      · rename_i z1 z2
        have i2 := ih (h.lt (Nat.le_succ _)) (lv := lv - 1) (by omega)
        rw [bitL_or, bitL_and, bit_iv hk, hd, show bitL (fillW W L U n lv (v / 64)) (v % 64) = _ from i1, show bitL (fillW W L U n (lv - 1) (v / 64)) (v % 64) = _ from i2, ← Bool.decide_and, ← Bool.decide_or]
        refine decide_eq_decide.mpr ?_
        rw [hs]
        split <;> omega
/-- the best value is told by these four -/
theorem mst_inv (E : Nat → XEst) (m : Nat) : ∀ n, (mstV E m n).2 = xcov E (nI (mstV E m n).1) m ∧ (∀ u, u ≤ n → xcov E (nI u) m ≤ (mstV E m n).2) ∧ (∀ u, u < (mstV E m n).1 → xcov E (nI u) m < (mstV E m n).2) := by
  intro n
  induction n with
  | zero => exact ⟨rfl, fun u hu => by rw [show u = 0 by omega]; exact Nat.le_refl _, fun u hu => absurd hu (Nat.not_lt_zero _)⟩
  | succ n ih =>
    obtain ⟨i1, i2, i3⟩ := ih
    have hle := (mstV_le E m n).1
    rw [mstV_s]
    split
    · rename_i z
      refine ⟨rfl, fun u hu => ?_, fun u hu => ?_⟩
      · rcases Nat.lt_or_ge n u with y | y
        · rw [show u = n + 1 by omega]; exact Nat.le_refl _
        · have := i2 u y
          dsimp only
          omega
      · have := i2 u (by dsimp only at hu; omega)
        dsimp only
        omega
    · rename_i z
      refine ⟨i1, fun u hu => ?_, i3⟩
      rcases Nat.lt_or_ge n u with y | y
      · rw [show u = n + 1 by omega]; omega
      · exact i2 u y
theorem mst_eq {E : Nat → XEst} {m v c : Nat} (hv : v ≤ 999) (h1 : xcov E (nI v) m = c) (h2 : ∀ u, u ≤ 999 → xcov E (nI u) m ≤ c) (h3 : ∀ u, u < v → xcov E (nI u) m < c) : (mstV E m 999).1 = v := by
  obtain ⟨i1, i2, i3⟩ := mst_inv E m 999
  have hle := (mstV_le E m 999).1
  have a1 := h2 _ hle
  have a2 := i2 v hv
  rcases Nat.lt_trichotomy (mstV E m 999).1 v with z | z | z
  · have := h3 _ z
    omega
  · exact z
  · have := i3 v z
    omega
/-- no interval reaches beyond 999 -/
theorem xcov_far {E : Nat → XEst} {L U : Nat → Nat} {v : Nat} (h1 : 999 < v) (hv : v < 1024) : ∀ {n : Nat}, endsE E n L U → xcov E (nI v) n = 0
  | 0, _ => rfl
  | n + 1, h => by
    have h4 := h n (Nat.lt_succ_self _)
    rw [xcov_s h hv, if_neg (by omega)]
    exact xcov_far h1 hv (h.lt (Nat.le_succ _))
/-- a low value is covered -/
theorem xcov_one {E : Nat → XEst} {L U : Nat → Nat} : ∀ {n r : Nat}, endsE E n L U → r < n → 1 ≤ xcov E (nI (L r)) n
  | n + 1, r, h, hr => by
    have h4 := h r hr
    rw [xcov_s h (by omega)]
    by_cases z : r = n
    · subst z
      rw [if_pos (by omega)]
      omega
    · have := xcov_one (h.lt (Nat.le_succ _)) (show r < n by omega)
      split <;> omega
