/-! what is the same below the counts answers the same -/
theorem fnd_cong {p q : Nat → Bool} : ∀ {n : Nat}, (∀ i, i < n → p i = q i) → fnd p n = fnd q n
  | 0, _ => rfl
  | n + 1, h => by
    unfold fnd
    rw [fnd_cong (n := n) (fun i hi => h i (by omega)), h n (by omega)]
def eqB (x y : Nat → Int32) : Prop := ∀ j, j < 10 → x j = y j
def eqP (x y : XPl) : Prop := x.1 = y.1 ∧ x.2.1 = y.2.1 ∧ x.2.2.1 = y.2.2.1 ∧ eqB x.2.2.2.1 y.2.2.2.1 ∧ eqB x.2.2.2.2 y.2.2.2.2
theorem eqB.rf {x : Nat → Int32} : eqB x x := fun _ _ => rfl
theorem eqB.tr {x y z : Nat → Int32} (h : eqB x y) (k : eqB y z) : eqB x z := fun j hj => (h j hj).trans (k j hj)
theorem eqP.rf {x : XPl} : eqP x x := ⟨rfl, rfl, rfl, eqB.rf, eqB.rf⟩
theorem eqP.symm {x y : XPl} (h : eqP x y) : eqP y x := ⟨h.1.symm, h.2.1.symm, h.2.2.1.symm, fun j hj => (h.2.2.2.1 j hj).symm, fun j hj => (h.2.2.2.2 j hj).symm⟩
theorem eqP.tr {x y z : XPl} (h : eqP x y) (k : eqP y z) : eqP x z := ⟨h.1.trans k.1, h.2.1.trans k.2.1, h.2.2.1.trans k.2.2.1, h.2.2.2.1.tr k.2.2.2.1, h.2.2.2.2.tr k.2.2.2.2⟩
theorem eqQ.rf {x : XQu} : eqQ x x := ⟨rfl, rfl, rfl, fun _ _ => rfl⟩
theorem eqQ.symm {x y : XQu} (h : eqQ x y) : eqQ y x := ⟨h.1.symm, h.2.1.symm, h.2.2.1.symm, fun r hr => (h.2.2.2 r (by rw [← h.2.2.1]; exact hr)).symm⟩
theorem eqQ.tr {x y z : XQu} (h : eqQ x y) (k : eqQ y z) : eqQ x z := ⟨h.1.trans k.1, h.2.1.trans k.2.1, h.2.2.1.trans k.2.2.1, fun r hr => (h.2.2.2 r (by rw [k.2.2.1]; exact hr)).trans (k.2.2.2 r hr)⟩
theorem eqP.ht {x y : XPl} (h : eqP x y) : htP x = htP y := xsum_eq h.2.2.2.2
theorem eqP.bet {x y u v : XPl} (h : eqP x y) (k : eqP u v) : betB x u = betB y v := by
  unfold betB
  rw [h.2.1, k.2.1, show xsum u.2.2.2.2 10 = xsum v.2.2.2.2 10 from k.ht, show xsum x.2.2.2.2 10 = xsum y.2.2.2.2 10 from h.ht]
theorem isPl_i {np : Nat} {p : Int32} (h : isPl np p) (hn : np ≤ 100000) : p.toNatClampNeg < np := by
  obtain ⟨i, hi, hpi, hcl⟩ := isPl_c h hn
  omega
section QC
variable {q k : Nat → XQu} {no : Nat}
theorem pla_cong (h : ∀ i, i < no → eqQ (q i) (k i)) (n : Int32) : pla q no n = pla k no n := fnd_cong (fun i hi => by rw [(h i hi).1])
theorem rnk_cong {x y : XQu} (h : eqQ x y) (p : Int32) : rnk x.2.2.2 x.2.2.1 p = rnk y.2.2.2 y.2.2.1 p := by
  unfold rnk
  rw [h.2.2.1]
  exact fnd_cong (fun i hi => by rw [h.2.2.2 i hi])
theorem stkQ_eqQ {x y : XQu} (h : eqQ x y) : stkQ x = stkQ y := by
  unfold stkQ
  rw [h.2.2.1]
  exact xsum_eq (fun r hr => by rw [h.2.2.2 r hr])
theorem betF_cong {np : Nat} {x y : Nat → XPl} (hn : np ≤ 100000) (hp : ∀ i, i < np → eqP (x i) (y i)) (h : ∀ i, i < no → eqQ (q i) (k i)) (p n lo hi c s : Int32) : betF np no x q p n lo hi c s = betF np no y k p n lo hi c s := by
  unfold betF
  rw [pla_cong h n]
  by_cases u : isPl np p
  · have e := hp _ (isPl_i u hn)
    rw [if_pos u, if_pos u, e.1, e.2.2.1]
    by_cases z : pla k no n < no
    · rw [if_pos z, if_pos z, rnk_cong (h _ z), (h _ z).2.2.1]
    · rw [if_neg z, if_neg z]
  · rw [if_neg u, if_neg u]
theorem rfnd_cong {x y : XQu} (h : eqQ x y) (p : Int32) : rfnd p x = rfnd p y := by
  unfold rfnd
  rw [rnk_cong h, h.2.2.1]
  split
  · rename_i z; rw [h.2.2.2 _ z]
  · rfl
theorem remQ_cong {x y : XQu} (h : eqQ x y) (p : Int32) : eqQ (remQ p x) (remQ p y) := by
  unfold remQ
  rw [rnk_cong h, h.2.2.1]
  split
  · rename_i z
    refine ⟨h.1, h.2.1, rfl, fun r hr => ?_⟩
    show rot x.2.2.2 _ _ r = rot y.2.2.2 _ _ r
    have hr2 : r < y.2.2.1 - 1 := hr
    rw [rot_I, rot_I]
    refine h.2.2.2 _ ?_
    unfold rotI
    (repeat' split) <;> omega
  · exact h
end QC
