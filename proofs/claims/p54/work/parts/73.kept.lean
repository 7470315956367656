/-! what stays true of the class's board -/
theorem xsum_s {f : Nat → Int32} {n : Nat} : xsum f (n + 1) = xsum f n + f n := rfl
theorem xacc_sum {z : Int32} {f : Nat → Int32} : ∀ n, xacc z f n = z + xsum f n
  | 0 => (Int32.add_zero z).symm
  | n + 1 => by
    show xacc z f n + f n = z + (xsum f n + f n)
    rw [xacc_sum n, Int32.add_assoc]
theorem xsum_out {f : Nat → Int32} {k : Nat} {v : Int32} : ∀ {n : Nat}, n ≤ k → xsum (xw f k v) n = xsum f n := fun h => xsum_eq (fun i hi => xw_n (by omega))
theorem xsum_xw {f : Nat → Int32} {k : Nat} {v : Int32} : ∀ {n : Nat}, k < n → xsum (xw f k v) n = xsum f n - f k + v
  | n + 1, h => by
    rw [xsum_s, xsum_s]
    by_cases z : k = n
    · subst z
      rw [xw_s, xsum_out (Nat.le_refl _)]
      grind
    · rw [xsum_xw (n := n) (by omega), xw_n (by omega)]
      grind
theorem xsum_sh {f : Nat → Int32} : ∀ n, xsum (fun i => f (i + 1)) n + f 0 = xsum f (n + 1)
  | 0 => rfl
  | n + 1 => by
    have ih := xsum_sh (f := f) n
    rw [xsum_s, xsum_s (n := n + 1), ← ih]
    grind
theorem xsum_rot {f : Nat → Int32} {n : Nat} (h : 0 < n) : xsum (fun i => f (rotI 0 (n - 1) i)) n = xsum f n := by
  obtain ⟨m, rfl⟩ : ∃ m, n = m + 1 := ⟨n - 1, by omega⟩
  rw [← xsum_sh (f := f), xsum_s (f := fun i => f (rotI 0 (m + 1 - 1) i))]
  rw [show rotI 0 (m + 1 - 1) m = 0 from by unfold rotI; (repeat' split) <;> omega]
  rw [xsum_eq (f := fun i => f (rotI 0 (m + 1 - 1) i)) (g := fun i => f (i + 1)) (fun i hi => by
    show f _ = f _
    congr 1
    unfold rotI
    (repeat' split) <;> omega)]
theorem fnd_hit {p : Nat → Bool} : ∀ {n i : Nat}, i < n → p i = true → fnd p n < n
  | n + 1, i, h1, h2 => by
    rcases Nat.lt_or_ge i n with z | z
    · have := fnd_hit z h2
      unfold fnd
      rw [if_pos this]
      omega
    · have e : i = n := by omega
      subst e
      unfold fnd
      split
      · omega
      · rw [h2, cond_true]; omega
def okQu (np N : Nat) (q : XQu) : Prop := q.2.2.1 ≤ 5 ∧ (∃ k, k < N ∧ q.1 = nI k) ∧ (∃ w : Nat, 1 ≤ w ∧ w ≤ 3 ∧ q.2.1 = nI w) ∧ (∀ r, r < q.2.2.1 → okEst np (q.2.2.2 r)) ∧ ∀ r s, r < s → s < q.2.2.1 → (q.2.2.2 r).1 ≠ (q.2.2.2 s).1
def scP (sc : Nat) (n : Nat) (p : XPl) : Prop := ∃ s t u : Nat, p.2.1 = nI s ∧ htP p = nI t ∧ szP p = nI u ∧ s ≤ 320000 * sc + 64000 * n ∧ t ≤ 5 * sc + n ∧ u ≤ 5 * sc + n
def sumC (ho : Int32) (np : Nat) (pl : Nat → XPl) : Int32 := ho + xsum (fun i => (pl i).1) np
def binC (np : Nat) (TS TH : Nat → Int32) (pl : Nat → XPl) : Prop := ∀ j, j < 10 → TS j = xsum (fun i => (pl i).2.2.2.1 j) np ∧ TH j = xsum (fun i => (pl i).2.2.2.2 j) np
def OKc (np no : Nat) (nn : Int32) (N sc : Nat) (ho : Int32) (TS TH : Nat → Int32) (pl : Nat → XPl) (q : Nat → XQu) : Prop :=
  nn = nI N ∧ (∀ i, i < no → okQu np N (q i)) ∧ sumC ho np pl + xsum (fun i => stkQ (q i)) no = 100 * nI np ∧ binC np TS TH pl ∧ ∀ i, i < np → scP sc 0 (pl i)
theorem okEst.mono {np n2 : Nat} {e : XEst} (h : okEst np e) (hn : np ≤ n2) : okEst n2 e := by
  obtain ⟨⟨i, hi, e1⟩, h2⟩ := h
  exact ⟨⟨i, by omega, e1⟩, h2⟩
theorem okQu.mono {np n2 N M : Nat} {q : XQu} (h : okQu np N q) (hn : np ≤ n2) (hN : N ≤ M) : okQu n2 M q := by
  obtain ⟨h1, ⟨k, hk, e⟩, h3, h4, h5⟩ := h
  exact ⟨h1, ⟨k, by omega, e⟩, h3, fun r hr => (h4 r hr).mono hn, h5⟩
theorem php : ∀ (n m : Nat) (a : Nat → Nat), (∀ r, r < m → a r < n) → (∀ r s, r < s → s < m → a r ≠ a s) → m ≤ n := by
  intro n
  induction n with
  | zero =>
    intro m a h _
    rcases Nat.eq_zero_or_pos m with z | z
    · omega
    · exact absurd (h 0 z) (Nat.not_lt_zero _)
  | succ n ih =>
    intro m a h hd
    by_cases z : ∃ r, r < m ∧ a r = n
    · obtain ⟨r, hr, e⟩ := z
      have := ih (m - 1) (fun k => if k < r then a k else a (k + 1)) (fun k hk => by
        show (if k < r then a k else a (k + 1)) < n
        split
        · have h1 := h k (by omega)
          have h2 := hd k r (by omega) hr
          omega
        · have h1 := h (k + 1) (by omega)
          have h2 := hd r (k + 1) (by omega) (by omega)
          omega) (fun x y hxy hy => by
        show (if x < r then a x else a (x + 1)) ≠ (if y < r then a y else a (y + 1))
        split <;> split <;> first | exact hd _ _ (by omega) (by omega) | omega)
      omega
    · have := ih m a (fun r hr => by
        have h1 := h r hr
        have h2 : a r ≠ n := fun e => z ⟨r, hr, e⟩
        omega) hd
      omega
section OKS
variable {np no : Nat} {nn : Int32} {N sc : Nat} {ho : Int32} {TS TH : Nat → Int32} {pl : Nat → XPl} {q : Nat → XQu}
/-- there is room for one who has not yet bet -/
theorem okQu.room {x : XQu} (h : okQu np N x) (hn : np ≤ 5) {i : Nat} (hi : i < np) (hr : rnk x.2.2.2 x.2.2.1 (nI i) = x.2.2.1) : x.2.2.1 < 5 := by
  obtain ⟨h1, -, -, h4, h5⟩ := h
  have hne : ∀ r, r < x.2.2.1 → (x.2.2.2 r).1 ≠ nI i := fun r hr2 e => by
    have := fnd_hit (p := fun k => decide ((x.2.2.2 k).1 = nI i)) hr2 (decide_eq_true e)
    unfold rnk at hr
    omega
  have hex : ∃ a : Nat → Nat, ∀ r, r < x.2.2.1 → a r < np ∧ (x.2.2.2 r).1 = nI (a r) := by
    refine ⟨fun r => (x.2.2.2 r).1.toNatClampNeg, fun r hr2 => ?_⟩
    obtain ⟨⟨k, hk, e⟩, -⟩ := h4 r hr2
    show (x.2.2.2 r).1.toNatClampNeg < np ∧ (x.2.2.2 r).1 = nI ((x.2.2.2 r).1.toNatClampNeg)
    rw [e, nI_clamp (by omega)]
    exact ⟨hk, rfl⟩
  obtain ⟨a, ha⟩ := hex
  have := php np (x.2.2.1 + 1) (fun r => if r < x.2.2.1 then a r else i) (fun r hr2 => by
    show (if r < x.2.2.1 then a r else i) < np
    split
    · rename_i z; exact (ha r z).1
    · exact hi) (fun r s h1 h2 => by
    show (if r < x.2.2.1 then a r else i) ≠ (if s < x.2.2.1 then a s else i)
    rw [if_pos (show r < x.2.2.1 by omega)]
    split
    · rename_i z
      intro e
      exact h5 r s h1 z (by rw [(ha r (by omega)).2, (ha s z).2, e])
    · intro e
      exact hne r (by omega) (by rw [(ha r (by omega)).2, e]))
  omega
theorem OKc.join (h : OKc np no nn N sc ho TS TH pl q) : OKc (np + 1) no nn N sc ho TS TH (xw pl np (100, (0, (false, (fun _ => 0, fun _ => 0))))) q := by
  obtain ⟨h1, h2, h3, h4, h5⟩ := h
  have e1 : ∀ g : XPl → Int32, xsum (fun i => g (xw pl np (100, (0, (false, (fun _ => 0, fun _ => 0)))) i)) (np + 1) = xsum (fun i => g (pl i)) np + g (100, (0, (false, (fun _ => 0, fun _ => 0)))) := fun g => by
    rw [xsum_s, xw_s, xsum_eq (fun i hi => by rw [xw_n (by omega)])]
  refine ⟨h1, fun i hi => (h2 i hi).mono (by omega) (Nat.le_refl _), ?_, fun j hj => ⟨?_, ?_⟩, fun i hi => ?_⟩
  · unfold sumC at h3 ⊢
    rw [e1 (fun p => p.1), nI_succ]
    show ho + (xsum (fun i => (pl i).1) np + 100) + _ = _
    grind
  · rw [e1 (fun p => p.2.2.2.1 j), (h4 j hj).1]
    exact (Int32.add_zero _).symm
  · rw [e1 (fun p => p.2.2.2.2 j), (h4 j hj).2]
    exact (Int32.add_zero _).symm
  · by_cases z : i = np
    · rw [z, xw_s]
      exact ⟨0, 0, 0, rfl, rfl, rfl, by omega, by omega, by omega⟩
    · rw [xw_n z]
      exact h5 i (by omega)
theorem OKc.ask (h : OKc np no nn N sc ho TS TH pl q) {w : Int32} (hw : 1 ≤ w ∧ w ≤ 3) {E : Nat → XEst} : OKc np (no + 1) (nn + 1) (N + 1) sc ho TS TH pl (xw q no (nn, (w, (0, E)))) := by
  obtain ⟨h1, h2, h3, h4, h5⟩ := h
  refine ⟨by rw [h1, nI_succ], fun i hi => ?_, ?_, h4, h5⟩
  · by_cases z : i = no
    · rw [z, xw_s]
      have hw1 := Int32.le_iff_toInt_le.mp hw.1
      have hw2 := Int32.le_iff_toInt_le.mp hw.2
      have t1 : (1 : Int32).toInt = 1 := rfl
      have t3 : (3 : Int32).toInt = 3 := rfl
      refine ⟨Nat.zero_le _, ⟨N, Nat.lt_succ_self _, h1⟩, ⟨w.toInt.toNat, by omega, by omega, ?_⟩, fun r hr => absurd hr (Nat.not_lt_zero _), fun r s _ hs => absurd hs (Nat.not_lt_zero _)⟩
      refine Int32.toInt_inj.mp ?_
      rw [nI_toInt (by omega)]
      show w.toInt = _
      omega
    · rw [xw_n z]
      exact (h2 i (by omega)).mono (Nat.le_refl _) (by omega)
  · rw [xsum_s, xw_s, xsum_eq (g := fun i => stkQ (q i)) (fun i hi => by rw [xw_n (by omega)]), ← h3]
    show _ + (_ + 0) = _
    rw [Int32.add_zero]
theorem stk_add {x : XQu} {e : XEst} : stkQ (x.1, (x.2.1, (x.2.2.1 + 1, xw x.2.2.2 x.2.2.1 e))) = stkQ x + e.2.2.2.2 := by
  unfold stkQ
  show xsum (fun r => (xw x.2.2.2 x.2.2.1 e r).2.2.2.2) (x.2.2.1 + 1) = _
  rw [xsum_s, xw_s, xsum_eq (g := fun r => (x.2.2.2 r).2.2.2.2) (fun r hr => by rw [xw_n (by omega)])]
theorem xw_map {α β : Type} (f : Nat → α) (k : Nat) (x : α) (g : α → β) : (fun i => g (xw f k x i)) = xw (fun i => g (f i)) k (g x) := funext fun i => by
  unfold xw
  split <;> rfl
theorem nat_of {x : Int32} {b : Nat} (h0 : 0 ≤ x) (h1 : x ≤ nI b) (hb : b ≤ 100000) : ∃ n : Nat, n ≤ b ∧ x = nI n := by
  have u1 := Int32.le_iff_toInt_le.mp h0
  have u2 := Int32.le_iff_toInt_le.mp h1
  have t0 : (0 : Int32).toInt = 0 := rfl
  rw [nI_toInt (by omega)] at u2
  refine ⟨x.toInt.toNat, by omega, Int32.toInt_inj.mp ?_⟩
  rw [nI_toInt (by omega)]
  omega
theorem betOK.est {lo hi c s : Int32} (h : betOK lo hi c s) {i : Nat} (hi2 : i < np) : okEst np (nI i, (lo, (hi, (c, s)))) := by
  obtain ⟨⟨l0, l1⟩, ⟨u0, u1⟩, hlu, hc, s1, s2⟩ := h
  obtain ⟨l, l2, el⟩ := nat_of (b := 999) l0 l1 (by omega)
  obtain ⟨u, u2, eu⟩ := nat_of (b := 999) u0 u1 (by omega)
  obtain ⟨s', s3, es⟩ := nat_of (b := 20) (Int32.le_trans (by decide) s1) s2 (by omega)
  refine ⟨⟨i, hi2, rfl⟩, ⟨l, u, el, eu, ?_, u2⟩, hc, ⟨s', ?_, s3, es⟩⟩
  · rw [el, eu] at hlu
    exact (nI_leN rfl rfl (by omega) (by omega)).mp hlu
  · rw [es] at s1
    exact (nI_leN (nI_k 1) rfl (by omega) (by omega)).mp s1
theorem OKc.bet (h : OKc np no nn N sc ho TS TH pl q) {i j : Nat} (hi : i < np) (hj : j < no) {lo hi_ c s : Int32} (hb : betOK lo hi_ c s) (hm : (q j).2.2.1 < 5) (hr : rnk (q j).2.2.2 (q j).2.2.1 (nI i) = (q j).2.2.1) : OKc np no nn N sc ho TS TH (xw pl i ((pl i).1 - s, (pl i).2)) (xw q j ((q j).1, ((q j).2.1, ((q j).2.2.1 + 1, xw (q j).2.2.2 (q j).2.2.1 (nI i, (lo, (hi_, (c, s)))))))) := by
  obtain ⟨h1, h2, h3, h4, h5⟩ := h
  refine ⟨h1, fun x hx => ?_, ?_, fun y hy => ?_, fun x hx => ?_⟩
  · by_cases z : x = j
    · rw [z, xw_s]
      obtain ⟨a1, a2, a3, a4, a5⟩ := h2 j hj
      refine ⟨Nat.succ_le_of_lt hm, a2, a3, fun r hr2 => ?_, fun r t hrt ht => ?_⟩
      · show okEst np (xw (q j).2.2.2 (q j).2.2.1 (nI i, (lo, (hi_, (c, s)))) r)
        have hr3 : r < (q j).2.2.1 + 1 := hr2
        by_cases y : r = (q j).2.2.1
        · rw [y, xw_s]; exact hb.est hi
        · rw [xw_n y]; exact a4 r (by omega)
      · show (xw (q j).2.2.2 (q j).2.2.1 (nI i, (lo, (hi_, (c, s)))) r).1 ≠ (xw (q j).2.2.2 (q j).2.2.1 (nI i, (lo, (hi_, (c, s)))) t).1
        have ht3 : t < (q j).2.2.1 + 1 := ht
        rw [xw_n (by omega)]
        by_cases y : t = (q j).2.2.1
        · rw [y, xw_s]
          intro e
          have e9 : rnk (q j).2.2.2 (q j).2.2.1 (nI i) < (q j).2.2.1 := by
            have := fnd_hit (p := fun k => decide (((q j).2.2.2 k).1 = nI i)) (n := (q j).2.2.1) (i := r) (by omega) (decide_eq_true e)
            exact this
          omega
        · rw [xw_n y]; exact a5 r t hrt (by omega)
    · rw [xw_n z]; exact h2 x hx
  · unfold sumC at h3 ⊢
    rw [xw_map pl i _ (fun p => p.1), xw_map q j _ stkQ, xsum_xw hi, xsum_xw hj, stk_add]
    grind
  · rw [xw_map pl i _ (fun p => p.2.2.2.1 y), xw_map pl i _ (fun p => p.2.2.2.2 y), xsum_xw hi, xsum_xw hi, (h4 y hy).1, (h4 y hy).2]
    exact ⟨by grind, by grind⟩
  · by_cases z : x = i
    · rw [z, xw_s]; exact h5 i hi
    · rw [xw_n z]; exact h5 x hx
theorem OKc.post (h : OKc np no nn N sc ho TS TH pl q) (h0 : 0 < no) : OKc np no nn N sc ho TS TH pl (rot q 0 (no - 1)) := by
  obtain ⟨h1, h2, h3, h4, h5⟩ := h
  refine ⟨h1, fun i hi => ?_, ?_, h4, h5⟩
  · rw [rot_I]
    refine h2 _ ?_
    unfold rotI
    (repeat' split) <;> omega
  · rw [xsum_eq (g := fun i => (fun k => stkQ (q k)) (rotI 0 (no - 1) i)) (fun i hi => by rw [rot_I]), xsum_rot (f := fun k => stkQ (q k)) h0]
    exact h3
end OKS
