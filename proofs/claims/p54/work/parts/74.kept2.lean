/-! what stays true: settling, leaving -/
theorem xdist_nat {e : XEst} {l u k : Nat} (h1 : e.2.1 = nI l) (h2 : e.2.2.1 = nI u) (hlu : l ≤ u) (hu : u ≤ 999) (hk : k ≤ 999) : ∃ D, D ≤ 999 ∧ xdist e (nI k) = nI D := by
  rw [(xdist_eq h1 h2 hlu hu hk).1]
  unfold xdistM
  rw [h1, h2]
  split
  · rename_i z
    have z := (nI_ltN (x := nI k) (y := nI l) rfl rfl (by omega) (by omega)).mp z
    exact ⟨l - k, by omega, nI_subE rfl rfl (by omega)⟩
  · split
    · rename_i z
      have z := (nI_ltN (x := nI u) (y := nI k) rfl rfl (by omega) (by omega)).mp z
      exact ⟨k - u, by omega, nI_subE rfl rfl (by omega)⟩
    · exact ⟨0, by omega, rfl⟩
theorem xpts_nat {e : XEst} {l u k : Nat} (h1 : e.2.1 = nI l) (h2 : e.2.2.1 = nI u) (hlu : l ≤ u) (hu : u ≤ 999) (hk : k ≤ 999) (hc : xconf e.2.2.2.1) : ∃ P, P ≤ 21000 ∧ xpts e (nI k) = nI P := by
  obtain ⟨D, hD, eD⟩ := xdist_nat h1 h2 hlu hu hk
  obtain ⟨c, c1, c9, ec⟩ := xconf_nI hc
  refine ⟨u - l + 20 * D / (10 - c), ?_, ?_⟩
  · have := Nat.div_le_self (20 * D) (10 - c)
    omega
  · unfold xpts
    rw [h1, h2, eD, ec]
    exact nI_addE (nI_subE rfl rfl hlu) (nI_divE (nI_mulE (nI_k 20) rfl) (nI_subE (nI_k 10) rfl (by omega)) (by omega) (by omega) (by omega))
section OKS
variable {np no : Nat} {nn : Int32} {N sc : Nat} {ho : Int32} {TS TH : Nat → Int32} {pl : Nat → XPl} {q : Nat → XQu}
theorem payP_sc {e : XEst} {w k n : Nat} {p : XPl} (h : scP sc n p) (ok : okEst np e) (hw : w ≤ 3) (hk : k ≤ 999) : scP sc (n + 1) (payP e (nI w) (nI k) p) := by
  obtain ⟨s, t, u, e1, e2, e3, b1, b2, b3⟩ := h
  obtain ⟨-, ⟨l, u', l1, u1, hlu, hu⟩, hc, -⟩ := ok
  obtain ⟨P, hP, eP⟩ := xpts_nat l1 u1 hlu hu hk hc
  obtain ⟨j, j1, j9, ej⟩ := xconf_nI hc
  have cj : e.2.2.2.1.toNatClampNeg = j := by rw [ej]; exact nI_clamp (by omega)
  have hwP : w * P ≤ 3 * 21000 := Nat.mul_le_mul hw hP
  have es : xsum (xw p.2.2.2.1 j (p.2.2.2.1 j + 1)) 10 = nI (u + 1) := by
    rw [xsum_xw (by omega), nI_succ, ← e3]
    unfold szP
    grind
  have et : xsum (xw p.2.2.2.2 j (p.2.2.2.2 j + 1)) 10 = nI (t + 1) := by
    rw [xsum_xw (by omega), nI_succ, ← e2]
    unfold htP
    grind
  refine ⟨s + w * P, bif hitB e (nI k) then t + 1 else t, u + 1, ?_, ?_, ?_, by omega, ?_, by omega⟩
  · show p.2.1 + nI w * xpts e (nI k) = _
    exact nI_addE e1 (nI_mulE rfl eP)
  · show xsum (bif hitB e (nI k) then xw p.2.2.2.2 e.2.2.2.1.toNatClampNeg (p.2.2.2.2 e.2.2.2.1.toNatClampNeg + 1) else p.2.2.2.2) 10 = _
    rw [cj]
    cases hitB e (nI k)
    · exact e2
    · exact et
  · show xsum (xw p.2.2.2.1 e.2.2.2.1.toNatClampNeg (p.2.2.2.1 e.2.2.2.1.toNatClampNeg + 1)) 10 = _
    rw [cj]
    exact es
  · cases hitB e (nI k)
    · show t ≤ _; omega
    · show t + 1 ≤ _; omega
theorem scP.up {n m : Nat} {p : XPl} (h : scP sc n p) (hm : n ≤ m) : scP sc m p := by
  obtain ⟨s, t, u, e1, e2, e3, b1, b2, b3⟩ := h
  exact ⟨s, t, u, e1, e2, e3, by omega, by omega, by omega⟩
theorem scP.five {n : Nat} {p : XPl} (h : scP sc n p) (hn : n ≤ 5) : scP (sc + 1) 0 p := by
  obtain ⟨s, t, u, e1, e2, e3, b1, b2, b3⟩ := h
  exact ⟨s, t, u, e1, e2, e3, by omega, by omega, by omega⟩
theorem payN_ok {E : Nat → XEst} {w k : Nat} (hk : k ≤ 999) (hw : w ≤ 3) (hn : np ≤ 5) (h4 : binC np TS TH pl) (h5 : ∀ i, i < np → scP sc 0 (pl i)) : ∀ n, (∀ r, r < n → okEst np (E r)) → sumC (payN E (nI w) (nI k) n (pl, (ho, (TS, TH)))).2.1 np (payN E (nI w) (nI k) n (pl, (ho, (TS, TH)))).1 = sumC ho np pl + xsum (fun r => (E r).2.2.2.2) n ∧ binC np (payN E (nI w) (nI k) n (pl, (ho, (TS, TH)))).2.2.1 (payN E (nI w) (nI k) n (pl, (ho, (TS, TH)))).2.2.2 (payN E (nI w) (nI k) n (pl, (ho, (TS, TH)))).1 ∧ ∀ i, i < np → scP sc n ((payN E (nI w) (nI k) n (pl, (ho, (TS, TH)))).1 i) := by
  intro n
  induction n with
  | zero => intro _; exact ⟨(Int32.add_zero _).symm, h4, h5⟩
  | succ n ih =>
    intro ok
    obtain ⟨i1, i2, i3⟩ := ih (fun r hr => ok r (by omega))
    have okn := ok n (Nat.lt_succ_self _)
    obtain ⟨⟨i, hi, e1⟩, -, hc, -⟩ := id okn
    obtain ⟨j, j1, j9, ej⟩ := xconf_nI hc
    have c1 : (E n).1.toNatClampNeg = i := by rw [e1]; exact nI_clamp (by omega)
    have cj : (E n).2.2.2.1.toNatClampNeg = j := by rw [ej]; exact nI_clamp (by omega)
    generalize hZ : payN E (nI w) (nI k) n (pl, (ho, (TS, TH))) = Z at i1 i2 i3
    have ep : payN E (nI w) (nI k) (n + 1) (pl, (ho, (TS, TH))) = pay1 (E n) (nI w) (nI k) Z := by rw [← hZ]; rfl
    rw [ep]
    refine ⟨?_, fun y hy => ?_, fun x hx => ?_⟩
    · show (bif hitB (E n) (nI k) then Z.2.1 - xprize (E n) else Z.2.1 + (E n).2.2.2.2) + xsum (fun x => (xw Z.1 (E n).1.toNatClampNeg (payP (E n) (nI w) (nI k) (Z.1 (E n).1.toNatClampNeg)) x).1) np = sumC ho np pl + (xsum (fun r => (E r).2.2.2.2) n + (E n).2.2.2.2)
      rw [c1, xw_map Z.1 i _ (fun p => p.1), xsum_xw hi]
      unfold sumC at i1 ⊢
      show _ + (xsum (fun x => (Z.1 x).1) np - (Z.1 i).1 + (bif hitB (E n) (nI k) then (Z.1 i).1 + ((E n).2.2.2.2 + xprize (E n)) else (Z.1 i).1)) = _
      cases hitB (E n) (nI k)
      · rw [cond_false, cond_false]; grind
      · rw [cond_true, cond_true]; grind
    · show xw Z.2.2.1 (E n).2.2.2.1.toNatClampNeg (Z.2.2.1 (E n).2.2.2.1.toNatClampNeg + 1) y = xsum (fun x => (xw Z.1 (E n).1.toNatClampNeg (payP (E n) (nI w) (nI k) (Z.1 (E n).1.toNatClampNeg)) x).2.2.2.1 y) np ∧ (bif hitB (E n) (nI k) then xw Z.2.2.2 (E n).2.2.2.1.toNatClampNeg (Z.2.2.2 (E n).2.2.2.1.toNatClampNeg + 1) else Z.2.2.2) y = xsum (fun x => (xw Z.1 (E n).1.toNatClampNeg (payP (E n) (nI w) (nI k) (Z.1 (E n).1.toNatClampNeg)) x).2.2.2.2 y) np
      rw [c1, cj, xw_map Z.1 i _ (fun p => p.2.2.2.1 y), xw_map Z.1 i _ (fun p => p.2.2.2.2 y), xsum_xw hi, xsum_xw hi]
      obtain ⟨b1, b2⟩ := i2 y hy
      have s1 : (payP (E n) (nI w) (nI k) (Z.1 i)).2.2.2.1 y = xw (Z.1 i).2.2.2.1 j ((Z.1 i).2.2.2.1 j + 1) y := by
        show xw (Z.1 i).2.2.2.1 (E n).2.2.2.1.toNatClampNeg _ y = _
        rw [cj]
      have s2 : (payP (E n) (nI w) (nI k) (Z.1 i)).2.2.2.2 y = (bif hitB (E n) (nI k) then xw (Z.1 i).2.2.2.2 j ((Z.1 i).2.2.2.2 j + 1) else (Z.1 i).2.2.2.2) y := by
        show (bif hitB (E n) (nI k) then xw (Z.1 i).2.2.2.2 (E n).2.2.2.1.toNatClampNeg _ else _) y = _
        rw [cj]
      show _ = xsum (fun x => (Z.1 x).2.2.2.1 y) np - (Z.1 i).2.2.2.1 y + (payP (E n) (nI w) (nI k) (Z.1 i)).2.2.2.1 y ∧ _ = xsum (fun x => (Z.1 x).2.2.2.2 y) np - (Z.1 i).2.2.2.2 y + (payP (E n) (nI w) (nI k) (Z.1 i)).2.2.2.2 y
      rw [s1, s2]
      by_cases z : y = j
      · rw [← z, xw_s, xw_s]
        refine ⟨by grind, ?_⟩
        cases hitB (E n) (nI k)
        · show Z.2.2.2 y = _ + (Z.1 i).2.2.2.2 y; grind
        · show xw _ y _ y = _ + xw _ y _ y
          rw [xw_s, xw_s]; grind
      · rw [xw_n z, xw_n z]
        refine ⟨by grind, ?_⟩
        cases hitB (E n) (nI k)
        · show Z.2.2.2 y = _ + (Z.1 i).2.2.2.2 y; grind
        · show xw _ j _ y = _ + xw _ j _ y
          rw [xw_n z, xw_n z]; grind
    · show scP sc (n + 1) (xw Z.1 (E n).1.toNatClampNeg (payP (E n) (nI w) (nI k) (Z.1 (E n).1.toNatClampNeg)) x)
      rw [c1]
      by_cases z : x = i
      · rw [z, xw_s]
        exact payP_sc (i3 i hi) okn hw hk
      · rw [xw_n z]
        exact (i3 x hx).up (Nat.le_succ _)
theorem OKc.settle (h : OKc np no nn N sc ho TS TH pl q) (hn : np ≤ 5) (h0 : 0 < no) {k : Nat} (hk : k ≤ 999) : OKc np (no - 1) nn N (sc + 1) (payN (q 0).2.2.2 (q 0).2.1 (nI k) (q 0).2.2.1 (pl, (ho, (TS, TH)))).2.1 (payN (q 0).2.2.2 (q 0).2.1 (nI k) (q 0).2.2.1 (pl, (ho, (TS, TH)))).2.2.1 (payN (q 0).2.2.2 (q 0).2.1 (nI k) (q 0).2.2.1 (pl, (ho, (TS, TH)))).2.2.2 (payN (q 0).2.2.2 (q 0).2.1 (nI k) (q 0).2.2.1 (pl, (ho, (TS, TH)))).1 (rot q 0 (no - 1)) := by
  obtain ⟨h1, h2, h3, h4, h5⟩ := h
  obtain ⟨a1, a2, ⟨w, w1, w3, ew⟩, a4, a5⟩ := h2 0 h0
  obtain ⟨p1, p2, p3⟩ := payN_ok (ho := ho) hk w3 hn h4 h5 (q 0).2.2.1 a4
  rw [ew]
  refine ⟨h1, fun i hi => ?_, ?_, p2, fun i hi => (p3 i hi).five a1⟩
  · rw [rot_I]
    refine h2 _ ?_
    unfold rotI
    (repeat' split) <;> omega
  · rw [p1, ← h3]
    obtain ⟨m, rfl⟩ : ∃ m, no = m + 1 := ⟨no - 1, by omega⟩
    rw [← xsum_sh (f := fun i => stkQ (q i)) m, xsum_eq (f := fun i => stkQ (rot q 0 (m + 1 - 1) i)) (g := fun i => stkQ (q (i + 1))) (fun i hi => by
      rw [rot_I, show rotI 0 (m + 1 - 1) i = i + 1 from by unfold rotI; (repeat' split) <;> omega])]
    show sumC ho np pl + stkQ (q 0) + _ = sumC ho np pl + (_ + stkQ (q 0))
    grind
theorem xsum_rm {f : Nat → Int32} {r : Nat} : ∀ n, r ≤ n → xsum (fun k => f (if k < r then k else k + 1)) n = xsum f (n + 1) - f r := by
  intro n
  induction n with
  | zero =>
    intro h
    rw [show r = 0 by omega, xsum_s]
    show (0 : Int32) = 0 + f 0 - f 0
    grind
  | succ n ih =>
    intro h
    by_cases z : r = n + 1
    · subst z
      rw [xsum_s (n := n + 1), xsum_eq (g := f) (fun i hi => by rw [if_pos hi])]
      grind
    · rw [xsum_s, ih (by omega), xsum_s (n := n + 1), if_neg (by omega)]
      grind
theorem stk_rem {x : XQu} {p : Int32} : stkQ (remQ p x) = stkQ x - rfnd p x := by
  unfold remQ rfnd
  by_cases z : rnk x.2.2.2 x.2.2.1 p < x.2.2.1
  · rw [if_pos z, if_pos z]
    unfold stkQ
    show xsum (fun k => (rot x.2.2.2 (rnk x.2.2.2 x.2.2.1 p) (x.2.2.1 - 1) k).2.2.2.2) (x.2.2.1 - 1) = _
    generalize rnk x.2.2.2 x.2.2.1 p = r at z
    obtain ⟨m, hm⟩ : ∃ m, x.2.2.1 = m + 1 := ⟨x.2.2.1 - 1, by omega⟩
    rw [hm]
    have e := xsum_rm (f := fun k => (x.2.2.2 k).2.2.2.2) (r := r) m (by omega)
    rw [← e]
    refine xsum_eq (fun k hk => ?_)
    show (rot x.2.2.2 r (m + 1 - 1) k).2.2.2.2 = _
    rw [rot_I, show rotI r (m + 1 - 1) k = if k < r then k else k + 1 from by unfold rotI; (repeat' split) <;> omega]
  · rw [if_neg z, if_neg z]
    grind
theorem okQu.rem {x : XQu} (h : okQu np N x) (p : Int32) : okQu np N (remQ p x) := by
  obtain ⟨a1, a2, a3, a4, a5⟩ := id h
  unfold remQ
  split
  · rename_i z
    generalize rnk x.2.2.2 x.2.2.1 p = r at z
    refine ⟨?_, a2, a3, fun k hk => ?_, fun k y hky hy => ?_⟩
    · show x.2.2.1 - 1 ≤ 5; omega
    · have hk2 : k < x.2.2.1 - 1 := hk
      show okEst np (rot x.2.2.2 r (x.2.2.1 - 1) k)
      rw [rot_I]
      refine a4 _ ?_
      unfold rotI
      (repeat' split) <;> omega
    · have hy2 : y < x.2.2.1 - 1 := hy
      show (rot x.2.2.2 r (x.2.2.1 - 1) k).1 ≠ (rot x.2.2.2 r (x.2.2.1 - 1) y).1
      rw [rot_I, rot_I]
      refine a5 _ _ ?_ ?_
      · unfold rotI
        (repeat' split) <;> omega
      · unfold rotI
        (repeat' split) <;> omega
  · exact h
theorem xsum_sub {f g : Nat → Int32} : ∀ n, xsum (fun i => f i - g i) n = xsum f n - xsum g n
  | 0 => by show (0 : Int32) = 0 - 0; grind
  | n + 1 => by
    rw [xsum_s, xsum_s, xsum_s, xsum_sub n]
    grind
theorem OKc.leave (h : OKc np no nn N sc ho TS TH pl q) {x : Nat} (hx : x < np) : OKc np no nn N sc ho TS TH (xw pl x (xacc (pl x).1 (fun i => rfnd (nI x) (q i)) no, ((pl x).2.1, (true, (pl x).2.2.2)))) (fun y => if y < no then remQ (nI x) (q y) else q y) := by
  obtain ⟨h1, h2, h3, h4, h5⟩ := h
  refine ⟨h1, fun i hi => ?_, ?_, fun y hy => ?_, fun i hi => ?_⟩
  · show okQu np N (if i < no then remQ (nI x) (q i) else q i)
    rw [if_pos hi]
    exact (h2 i hi).rem _
  · unfold sumC at h3 ⊢
    rw [xw_map pl x _ (fun p => p.1), xsum_xw hx, xacc_sum, xsum_eq (f := fun i => stkQ (if i < no then remQ (nI x) (q i) else q i)) (g := fun i => stkQ (q i) - rfnd (nI x) (q i)) (fun i hi => by rw [if_pos hi, stk_rem]), xsum_sub (f := fun i => stkQ (q i)) (g := fun i => rfnd (nI x) (q i))]
    grind
  · rw [xw_map pl x _ (fun p => p.2.2.2.1 y), xw_map pl x _ (fun p => p.2.2.2.2 y), xsum_xw hx, xsum_xw hx, (h4 y hy).1, (h4 y hy).2]
    exact ⟨by grind, by grind⟩
  · by_cases z : i = x
    · rw [z, xw_s]; exact h5 x hx
    · rw [xw_n z]; exact h5 i hi
end OKS
