/-! what is the same below the counts answers the same -/
theorem fnd_cong {p q : Nat → Bool} : ∀ {n : Nat}, (∀ i, i < n → p i = q i) → fnd p n = fnd q n
  | 0, _ => rfl
  | n + 1, h => by
    unfold fnd
    rw [fnd_cong (n := n) (fun i hi => h i (by omega)), h n (by omega)]
def eqB (x y : Nat → Int32) : Prop := ∀ j, j < 10 → x j = y j
def eqP (x y : XPl) : Prop := x.1 = y.1 ∧ x.2.1 = y.2.1 ∧ x.2.2.1 = y.2.2.1 ∧ eqB x.2.2.2.1 y.2.2.2.1 ∧ eqB x.2.2.2.2 y.2.2.2.2
theorem eqB.rf {x : Nat → Int32} : eqB x x := fun _ _ => rfl
theorem eqB.tr {x y z : Nat → Int32} (h : eqB x y) (k : eqB y z) : eqB x z := fun j hj => (h j hj).trans (k j hj)
theorem eqP.rf {x : XPl} : eqP x x := ⟨rfl, rfl, rfl, eqB.rf, eqB.rf⟩
theorem eqP.symm {x y : XPl} (h : eqP x y) : eqP y x := ⟨h.1.symm, h.2.1.symm, h.2.2.1.symm, fun j hj => (h.2.2.2.1 j hj).symm, fun j hj => (h.2.2.2.2 j hj).symm⟩
theorem eqP.tr {x y z : XPl} (h : eqP x y) (k : eqP y z) : eqP x z := ⟨h.1.trans k.1, h.2.1.trans k.2.1, h.2.2.1.trans k.2.2.1, h.2.2.2.1.tr k.2.2.2.1, h.2.2.2.2.tr k.2.2.2.2⟩
theorem eqQ.rf {x : XQu} : eqQ x x := ⟨rfl, rfl, rfl, fun _ _ => rfl⟩
theorem eqQ.symm {x y : XQu} (h : eqQ x y) : eqQ y x := ⟨h.1.symm, h.2.1.symm, h.2.2.1.symm, fun r hr => (h.2.2.2 r (by rw [← h.2.2.1]; exact hr)).symm⟩
theorem eqQ.tr {x y z : XQu} (h : eqQ x y) (k : eqQ y z) : eqQ x z := ⟨h.1.trans k.1, h.2.1.trans k.2.1, h.2.2.1.trans k.2.2.1, fun r hr => (h.2.2.2 r (by rw [k.2.2.1]; exact hr)).trans (k.2.2.2 r hr)⟩
theorem eqP.sz {x y : XPl} (h : eqP x y) : szP x = szP y := xsum_eq h.2.2.2.1
theorem eqP.ht {x y : XPl} (h : eqP x y) : htP x = htP y := xsum_eq h.2.2.2.2
theorem eqP.er {x y : XPl} (h : eqP x y) : errP x = errP y := xsum_eq (fun i hi => by
  rw [h.2.2.2.1 (i + 1) (by omega), h.2.2.2.2 (i + 1) (by omega)])
theorem eqP.bet {x y u v : XPl} (h : eqP x y) (k : eqP u v) : betB x u = betB y v := by
  unfold betB
  rw [h.2.1, k.2.1, show xsum u.2.2.2.2 10 = xsum v.2.2.2.2 10 from k.ht, show xsum x.2.2.2.2 10 = xsum y.2.2.2.2 10 from h.ht]
theorem prec_cong {x y : Nat → XPl} {np k i : Nat} (h : ∀ i, i < np → eqP (x i) (y i)) (hk : k < np) (hi : i < np) : prec x k i = prec y k i := by
  unfold prec
  rw [(h k hk).bet (h i hi), (h i hi).bet (h k hk)]
theorem bst_cong {x y : Nat → XPl} : ∀ {n : Nat}, (∀ i, i < n → eqP (x i) (y i)) → bst x n = bst y n
  | 0, _ => rfl
  | n + 1, h => by
    have ih := bst_cong (n := n) (fun i hi => h i (by omega))
    rw [bst_s, bst_s, (h n (by omega)).sz, ih]
    split
    · rfl
    · cases hb : bst y n with
      | none => rfl
      | some j =>
        have hj := bst_lt hb
        dsimp only
        rw [(h n (by omega)).er, (h j (by omega)).er]
theorem R_by_cong {x y : Nat → XPl} {np : Nat} (h : ∀ i, i < np → eqP (x i) (y i)) (r : Int32) : R_by np x r = R_by np y r := by
  unfold R_by
  have e : fnd (fun i => decide (nI (cntB (prec x i) np) = r)) np = fnd (fun i => decide (nI (cntB (prec y i) np) = r)) np := fnd_cong (fun i hi => by
    rw [cntB_cong (fun j hj => prec_cong h hi hj)])
  rw [e]
theorem isPl_i {np : Nat} {p : Int32} (h : isPl np p) (hn : np ≤ 100000) : p.toNatClampNeg < np := by
  obtain ⟨i, hi, hpi, hcl⟩ := isPl_c h hn
  omega
theorem R_pl_cong {np : Nat} {f g : Nat → Int32} (hn : np ≤ 100000) (h : ∀ i, i < np → f i = g i) (p : Int32) : R_pl np p f = R_pl np p g := by
  unfold R_pl
  split
  · rename_i z; rw [h _ (isPl_i z hn)]
  · rfl
section QC
variable {q k : Nat → XQu} {no : Nat}
theorem pla_cong (h : ∀ i, i < no → eqQ (q i) (k i)) (n : Int32) : pla q no n = pla k no n := fnd_cong (fun i hi => by rw [(h i hi).1])
theorem rnk_cong {x y : XQu} (h : eqQ x y) (p : Int32) : rnk x.2.2.2 x.2.2.1 p = rnk y.2.2.2 y.2.2.1 p := by
  unfold rnk
  rw [h.2.2.1]
  exact fnd_cong (fun i hi => by rw [h.2.2.2 i hi])
theorem xcov_cong {E F : Nat → XEst} {v : Int32} : ∀ {n : Nat}, (∀ r, r < n → E r = F r) → xcov E v n = xcov F v n
  | 0, _ => rfl
  | n + 1, h => by
    unfold xcov
    rw [xcov_cong (n := n) (fun r hr => h r (by omega)), h n (by omega)]
theorem xcov_eqQ {x y : XQu} (h : eqQ x y) (v : Int32) : xcov x.2.2.2 v x.2.2.1 = xcov y.2.2.2 v y.2.2.1 := by
  rw [h.2.2.1]; exact xcov_cong h.2.2.2
theorem mstV_eqQ {x y : XQu} (h : eqQ x y) : ∀ n, mstV x.2.2.2 x.2.2.1 n = mstV y.2.2.2 y.2.2.1 n
  | 0 => by unfold mstV; rw [xcov_eqQ h]
  | n + 1 => by rw [mstV_s, mstV_s, mstV_eqQ h n, xcov_eqQ h]
theorem numV_eqQ {x y : XQu} (h : eqQ x y) (n : Nat) : numV x.2.2.2 x.2.2.1 n = numV y.2.2.2 y.2.2.1 n := cntB_cong (fun v _ => by rw [xcov_eqQ h])
theorem stkQ_eqQ {x y : XQu} (h : eqQ x y) : stkQ x = stkQ y := by
  unfold stkQ
  rw [h.2.2.1]
  exact xsum_eq (fun r hr => by rw [h.2.2.2 r hr])
theorem R_q_cong (h : ∀ i, i < no → eqQ (q i) (k i)) {f g : XQu → Int32} (hf : ∀ x y, eqQ x y → f x = g y) (n : Int32) : R_q q no n f = R_q k no n g := by
  unfold R_q
  rw [pla_cong h n]
  split
  · rename_i z; rw [hf _ _ (h _ z)]
  · rfl
theorem R_est_cong (h : ∀ i, i < no → eqQ (q i) (k i)) (hm : ∀ i, i < no → (k i).2.2.1 ≤ 5) (n r : Int32) : R_est q no n r = R_est k no n r := by
  unfold R_est
  rw [pla_cong h n]
  split
  · rename_i z
    rw [(h _ z).2.2.1]
    split
    · rename_i y; rw [(h _ z).2.2.2 _ (isPl_i y (by have := hm _ z; omega))]
    · rfl
  · rfl
theorem R_fld_cong (h : ∀ i, i < no → eqQ (q i) (k i)) (np : Nat) (p n : Int32) (f : XEst → Int32) : R_fld np q no p n f = R_fld np k no p n f := by
  unfold R_fld
  rw [pla_cong h n]
  split
  · by_cases z : pla k no n < no
    · rw [rnk_cong (h _ z), (h _ z).2.2.1]
      by_cases y : rnk (k (pla k no n)).2.2.2 (k (pla k no n)).2.2.1 p < (k (pla k no n)).2.2.1
      · rw [if_pos ⟨z, y⟩, if_pos ⟨z, y⟩, (h _ z).2.2.2 _ y]
      · rw [if_neg (fun u => y u.2), if_neg (fun u => y u.2)]
    · rw [if_neg (fun u => z u.1), if_neg (fun u => z u.1)]
  · rfl
theorem R_cov_cong (h : ∀ i, i < no → eqQ (q i) (k i)) (n v : Int32) : R_cov q no n v = R_cov k no n v := by
  unfold R_cov
  rw [pla_cong h n]
  split
  · rename_i z; rw [xcov_eqQ (h _ z)]
  · rfl
theorem R_mst_cong (h : ∀ i, i < no → eqQ (q i) (k i)) (n : Int32) : R_mst q no n = R_mst k no n := by
  unfold R_mst
  rw [pla_cong h n]
  by_cases z : pla k no n < no
  · rw [(h _ z).2.2.1, show mstV (q (pla k no n)).2.2.2 (k (pla k no n)).2.2.1 999 = mstV (k (pla k no n)).2.2.2 (k (pla k no n)).2.2.1 999 from by rw [← (h _ z).2.2.1]; rw [mstV_eqQ (h _ z), (h _ z).2.2.1]]
  · rw [if_neg (fun u => z u.1), if_neg (fun u => z u.1)]
theorem R_rec_cong {f g : Nat → Int32} {sc : Nat} (h : ∀ j, j < min sc 5 → f j = g j) (p : Int32) : R_rec sc f p = R_rec sc g p := by
  unfold R_rec
  split
  · rename_i z; rw [h _ (isPl_i z (by omega))]
  · rfl
theorem xconf_i {c : Int32} (h : xconf c) : 1 ≤ c.toNatClampNeg ∧ c.toNatClampNeg ≤ 9 := by
  obtain ⟨j, h1, h9, e⟩ := xconf_nI h
  rw [e, nI_clamp (by omega)]
  exact ⟨h1, h9⟩
theorem R_bin_cong {f g : Nat → Int32} (h : ∀ j, 1 ≤ j → j ≤ 9 → f j = g j) (c : Int32) : R_bin f c = R_bin g c := by
  unfold R_bin
  split
  · rename_i z; rw [h _ (xconf_i z).1 (xconf_i z).2]
  · rfl
theorem betF_cong {np : Nat} {x y : Nat → XPl} (hn : np ≤ 100000) (hp : ∀ i, i < np → eqP (x i) (y i)) (h : ∀ i, i < no → eqQ (q i) (k i)) (p n lo hi c s : Int32) : betF np no x q p n lo hi c s = betF np no y k p n lo hi c s := by
  unfold betF
  rw [pla_cong h n]
  by_cases u : isPl np p
  · have e := hp _ (isPl_i u hn)
    rw [if_pos u, if_pos u, e.1, e.2.2.1]
    by_cases z : pla k no n < no
    · rw [if_pos z, if_pos z, rnk_cong (h _ z), (h _ z).2.2.1]
    · rw [if_neg z, if_neg z]
  · rw [if_neg u, if_neg u]
theorem rfnd_cong {x y : XQu} (h : eqQ x y) (p : Int32) : rfnd p x = rfnd p y := by
  unfold rfnd
  rw [rnk_cong h, h.2.2.1]
  split
  · rename_i z; rw [h.2.2.2 _ z]
  · rfl
theorem remQ_cong {x y : XQu} (h : eqQ x y) (p : Int32) : eqQ (remQ p x) (remQ p y) := by
  unfold remQ
  rw [rnk_cong h, h.2.2.1]
  split
  · rename_i z
    refine ⟨h.1, h.2.1, rfl, fun r hr => ?_⟩
    show rot x.2.2.2 _ _ r = rot y.2.2.2 _ _ r
    have hr2 : r < y.2.2.1 - 1 := hr
    rw [rot_I, rot_I]
    refine h.2.2.2 _ ?_
    unfold rotI
    (repeat' split) <;> omega
  · exact h
end QC
