/-! the reference's answers; what each call answers, as a number (0: it answers, else which exception of the law's) and a value -/
theorem isPl_n {np : Nat} {p : Int32} (h : isPl np p) (hn : np ≤ 100000) : ∃ i, i < np ∧ p = nI i := by
  obtain ⟨j, h1, rfl⟩ := nI_of (x := p) (fun z => absurd h.1 (Int32.not_le.mpr z))
  exact ⟨j, (nI_ltI h1 (by omega)).mp h.2, rfl⟩
theorem isPl_c {np : Nat} {p : Int32} (h : isPl np p) (hn : np ≤ 100000) : ∃ i, i < np ∧ p = nI i ∧ p.toNatClampNeg = i := by
  obtain ⟨i, h1, rfl⟩ := isPl_n h hn
  exact ⟨i, h1, rfl, nI_clamp (by omega)⟩
theorem xsum_eq {f g : Nat → Int32} : ∀ {n : Nat}, (∀ i, i < n → f i = g i) → xsum f n = xsum g n
  | 0, _ => rfl
  | n + 1, h => by
    show xsum f n + f n = xsum g n + g n
    rw [xsum_eq (n := n) (fun i hi => h i (by omega)), h n (by omega)]
theorem gB_sum (G : Nat → Int32) (z : Nat) : xsum (gB G z) 10 = xsum (fun j => G (z + j)) 9 := by
  have h : ∀ n, xsum (gB G z) (n + 1) = xsum (fun j => G (z + j)) n := by
    intro n
    induction n with
    | zero => rfl
    | succ n ih =>
      show xsum (gB G z) (n + 1) + gB G z (n + 1) = xsum (fun j => G (z + j)) n + G (z + n)
      rw [ih]
      congr 1
  exact h 9
theorem nI_divE {x y : Int32} {a b : Nat} (h : x = nI a) (k : y = nI b) (hb : 0 < b) (ha : a < 2 ^ 31) (hb2 : b < 2 ^ 31) : x / y = nI (a / b) := by
  subst h; subst k
  apply Int32.toInt_inj.mp
  have hdb : a / b ≤ a := Nat.div_le_self _ _
  rw [Int32.toInt_div_of_ne_right _ _ (by intro z; have := congrArg Int32.toInt z; rw [nI_toInt hb2] at this; have h5 : (-1 : Int32).toInt = -1 := rfl; omega), nI_toInt ha, nI_toInt hb2, nI_toInt (by omega)]
  rw [Int.tdiv_eq_ediv_of_nonneg (by omega)]
  rfl
def R_pl (np : Nat) (p : Int32) (f : Nat → Int32) : XR := if isPl np p then (0, f p.toNatClampNeg) else (1, 0)
def R_q (q : Nat → XQu) (no : Nat) (n : Int32) (f : XQu → Int32) : XR := if pla q no n < no then (0, f (q (pla q no n))) else (1, 0)
def R_est (q : Nat → XQu) (no : Nat) (n r : Int32) : XR := if pla q no n < no then (if isPl (q (pla q no n)).2.2.1 r then (0, ((q (pla q no n)).2.2.2 r.toNatClampNeg).1) else (2, 0)) else (1, 0)
def R_fld (np : Nat) (q : Nat → XQu) (no : Nat) (p n : Int32) (f : XEst → Int32) : XR := if isPl np p then (if pla q no n < no ∧ rnk (q (pla q no n)).2.2.2 (q (pla q no n)).2.2.1 p < (q (pla q no n)).2.2.1 then (0, f ((q (pla q no n)).2.2.2 (rnk (q (pla q no n)).2.2.2 (q (pla q no n)).2.2.1 p))) else (2, 0)) else (1, 0)
def R_cov (q : Nat → XQu) (no : Nat) (n v : Int32) : XR := if pla q no n < no then (if xval v then (0, nI (xcov (q (pla q no n)).2.2.2 v (q (pla q no n)).2.2.1)) else (2, 0)) else (1, 0)
/-- the least value below n that is covered most, and how often -/
def mstV (E : Nat → XEst) (many : Nat) : Nat → Nat × Nat
  | 0 => (0, xcov E (nI 0) many)
  | n + 1 => if (mstV E many n).2 < xcov E (nI (n + 1)) many then (n + 1, xcov E (nI (n + 1)) many) else mstV E many n
theorem mstV_le (E : Nat → XEst) (many : Nat) : ∀ n, (mstV E many n).1 ≤ n ∧ (mstV E many n).2 ≤ many
  | 0 => ⟨Nat.le_refl _, xcov_le _ _ _⟩
  | n + 1 => by
    have := mstV_le E many n
    have h2 := xcov_le E (nI (n + 1)) many
    unfold mstV
    split
    · exact ⟨Nat.le_refl _, h2⟩
    · exact ⟨by omega, this.2⟩
theorem mstV_s {E : Nat → XEst} {many n : Nat} : mstV E many (n + 1) = if (mstV E many n).2 < xcov E (nI (n + 1)) many then (n + 1, xcov E (nI (n + 1)) many) else mstV E many n := rfl
def R_mst (q : Nat → XQu) (no : Nat) (n : Int32) : XR := if pla q no n < no ∧ 0 < (q (pla q no n)).2.2.1 then (0, nI (mstV (q (pla q no n)).2.2.2 (q (pla q no n)).2.2.1 999).1) else (1, 0)
def numV (E : Nat → XEst) (many n : Nat) : Nat := cntB (fun v => decide (0 < xcov E (nI v) many)) n
def R_rec (sc : Nat) (tr : Nat → Int32) (b : Int32) : XR := if isPl (min sc 5) b then (0, tr b.toNatClampNeg) else (1, 0)
def R_opt (o : Option Nat) : XR := match o with
  | none => (1, 0)
  | some j => (0, nI j)
def R_by (np : Nat) (pl : Nat → XPl) (r : Int32) : XR := R_opt (let i := fnd (fun i => decide (nI (cntB (prec pl i) np) = r)) np; if i < np then some i else none)
def R_bin (f : Nat → Int32) (c : Int32) : XR := if xconf c then (0, f c.toNatClampNeg) else (1, 0)
def gT (G : Nat → Int32) (sc j : Nat) : Int32 := G (5 + (sc - 1 - j) % 5)
