/-! the board's sums, who leads, who leaves, and copies -/
def xacc (z : Int32) (f : Nat → Int32) : Nat → Int32
  | 0 => z
  | n + 1 => xacc z f n + f n
def stkQ (q : XQu) : Int32 := xsum (fun r => (q.2.2.2 r).2.2.2.2) q.2.2.1
theorem l_29 {S : XSc} {d : Nat} {h : XH} {Q : XO → XH → Prop} {b np no : Nat} {nn : Int32} {sc : Nat} {ho : Int32} {TS TH tr : Nat → Int32} {pl : Nat → XPl} {q : Nat → XQu} {s : Nat → Nat} {R : Nat → Nat → Nat} (hB : BdP h.1 b np no nn sc ho TS TH tr pl q s R) (h32 : 32 ≤ b) (k : Q (.inl (some (.int (xsum (fun i => stkQ (q i)) no)))) h) : ∀ (m : Nat) (i : Nat), no - i < m → (i ≤ no) → xP S (d + 1) 29 4 [(0, .ref b), (1, .int (xsum (fun i => stkQ (q i)) i)), (2, .int (nI i))] [] h Q := by
  intro m
  induction m with
  | zero => intro i hm; exact absurd hm (Nat.not_lt_zero _)
  | succ m ih =>
    intro i hm hi
    obtain ⟨b1, ⟨b2n, b2o, b2s⟩, b3, b4, b5, b6, b7, b8, b9, b10⟩ := id hB
    refine xs_f 5 r_29_4 rfl ?_
    refine xs_f 6 r_29_5 rfl ?_
    refine xs_get 9 r_29_6 rfl rfl (by first | assumption | exact xup_s | exact (b7 _ (by omega)).1 | exact (b10 _ (by omega)).1 | (refine (xup_n (by omega)).trans ?_; first | assumption | exact xup_s | exact (b7 _ (by omega)).1 | exact (b10 _ (by omega)).1) | (refine (xup_n (by omega)).trans ((xup_n (by omega)).trans ?_); first | assumption | exact xup_s | exact (b7 _ (by omega)).1 | exact (b10 _ (by omega)).1) | (refine (xup_n (by omega)).trans ((xup_n (by omega)).trans ((xup_n (by omega)).trans ?_)); first | assumption | exact xup_s | exact (b7 _ (by omega)).1 | exact (b10 _ (by omega)).1)) (by rfl) ?_
    refine xs_if 30 12 r_29_9 rfl (fun hc1 => ?_) (fun hc1 => ?_)
    · have hc1 := (nI_leN rfl rfl (by omega) (by omega)).mp hc1
      refine xs_f 31 r_29_30 rfl ?_
      refine xs_ret r_29_31 rfl ?_
      have e : i = no := by omega
      subst e
      exact k
    · have hc1 := mt (nI_leN rfl rfl (by omega) (by omega)).mpr hc1
      refine xs_f 13 r_29_12 rfl ?_
      refine xs_f 14 r_29_13 rfl ?_
      refine xs_get 17 r_29_14 rfl rfl (by first | assumption | exact xup_s | exact (b7 _ (by omega)).1 | exact (b10 _ (by omega)).1 | (refine (xup_n (by omega)).trans ?_; first | assumption | exact xup_s | exact (b7 _ (by omega)).1 | exact (b10 _ (by omega)).1) | (refine (xup_n (by omega)).trans ((xup_n (by omega)).trans ?_); first | assumption | exact xup_s | exact (b7 _ (by omega)).1 | exact (b10 _ (by omega)).1) | (refine (xup_n (by omega)).trans ((xup_n (by omega)).trans ((xup_n (by omega)).trans ?_)); first | assumption | exact xup_s | exact (b7 _ (by omega)).1 | exact (b10 _ (by omega)).1)) (by rfl) ?_
      refine xs_f 18 r_29_17 rfl ?_
      refine xs_aldR 19 r_29_18 (fun _ _ => rfl) rfl rfl rfl (j := i) rfl (by first | assumption | (refine RA.fr ?_ (xup_n (by omega)); first | assumption) | (refine RA.fr (RA.fr ?_ (xup_n (by omega))) (xup_n (by omega)); first | assumption) | (refine RA.fr (RA.fr (RA.fr ?_ (xup_n (by omega))) (xup_n (by omega))) (xup_n (by omega)); first | assumption)) (by omega) ?_
      refine xs_call (lv2 := [(0, _)]) r_29_19 rfl rfl (by decide) (xcan_0 rfl rfl (by first | assumption | exact xup_s | exact (b7 _ (by omega)).1 | exact (b10 _ (by omega)).1 | (refine (xup_n (by omega)).trans ?_; first | assumption | exact xup_s | exact (b7 _ (by omega)).1 | exact (b10 _ (by omega)).1) | (refine (xup_n (by omega)).trans ((xup_n (by omega)).trans ?_); first | assumption | exact xup_s | exact (b7 _ (by omega)).1 | exact (b10 _ (by omega)).1) | (refine (xup_n (by omega)).trans ((xup_n (by omega)).trans ((xup_n (by omega)).trans ?_)); first | assumption | exact xup_s | exact (b7 _ (by omega)).1 | exact (b10 _ (by omega)).1)) (by rfl)) rfl (c_82 (b10 i (by omega)) (by omega) ?_)
      refine xK_v rfl ?_
      refine xs_f 23 r_29_22 rfl ?_
      refine xs_f 24 (lv2 := [(1, _), (0, _), (2, _)]) r_29_23 rfl ?_
      refine xs_f 27 (lv2 := [(2, _), (1, _), (0, _)]) r_29_24 rfl ?_
      refine xs_f 4 r_29_27 rfl ?_
      exact xP_lv [(0, .ref b), (1, .int (xsum (fun i => stkQ (q i)) (i + 1))), (2, .int (nI (i + 1)))] rfl ⟨rfl, rfl, (by rw [nI_succ]; rfl), trivial⟩ (ih (i + 1) (by omega) (by omega))

theorem c_29 {S : XSc} {d : Nat} {h : XH} {Q : XO → XH → Prop} {b np no : Nat} {nn : Int32} {sc : Nat} {ho : Int32} {TS TH tr : Nat → Int32} {pl : Nat → XPl} {q : Nat → XQu} {s : Nat → Nat} {R : Nat → Nat → Nat} (hB : BdP h.1 b np no nn sc ho TS TH tr pl q s R) (h32 : 32 ≤ b)  (k : Q (.inl (some (.int (xsum (fun i => stkQ (q i)) no)))) h) : xP S (d + 1) 29 0 [(0, .ref b)] [] h Q := by
  obtain ⟨b1, ⟨b2n, b2o, b2s⟩, b3, b4, b5, b6, b7, b8, b9, b10⟩ := id hB
  refine xs_f 1 r_29_0 rfl ?_
  refine xs_f 2 (lv2 := [(1, _), (0, _)]) r_29_1 rfl ?_
  refine xs_f 3 r_29_2 rfl ?_
  refine xs_f 4 (lv2 := [(2, _), (1, _), (0, _)]) r_29_3 rfl ?_
  exact xP_lv [(0, .ref b), (1, .int (xsum (fun i => stkQ (q i)) 0)), (2, .int (nI 0))] rfl ⟨rfl, rfl, rfl, trivial⟩ (l_29 hB h32 k (no + 1) 0 (by omega) (by omega))

theorem l_30 {S : XSc} {d : Nat} {h : XH} {Q : XO → XH → Prop} {b np no : Nat} {nn : Int32} {sc : Nat} {ho : Int32} {TS TH tr : Nat → Int32} {pl : Nat → XPl} {q : Nat → XQu} {s : Nat → Nat} {R : Nat → Nat → Nat} (hB : BdP h.1 b np no nn sc ho TS TH tr pl q s R) (h32 : 32 ≤ b) {j : Nat} (h1 : 1 ≤ j) (h9 : j ≤ 9) (k : Q (.inl (some (.int (xsum (fun i => (pl i).2.2.2.1 j) np)))) h) : ∀ (m : Nat) (i : Nat), np - i < m → (i ≤ np) → xP S (d + 2) 30 4 [(0, .ref b), (1, .int (nI j)), (2, .int (xsum (fun i => (pl i).2.2.2.1 j) i)), (3, .int (nI i))] [] h Q := by
  intro m
  induction m with
  | zero => intro i hm; exact absurd hm (Nat.not_lt_zero _)
  | succ m ih =>
    intro i hm hi
    obtain ⟨b1, ⟨b2n, b2o, b2s⟩, b3, b4, b5, b6, b7, b8, b9, b10⟩ := id hB
    refine xs_f 5 r_30_4 rfl ?_
    refine xs_f 6 r_30_5 rfl ?_
    refine xs_get 9 r_30_6 rfl rfl (by first | assumption | exact xup_s | exact (b7 _ (by omega)).1 | exact (b10 _ (by omega)).1 | exact (b7 _ (by omega)).2.1 | (refine (xup_n (by omega)).trans ?_; first | assumption | exact xup_s | exact (b7 _ (by omega)).1 | exact (b10 _ (by omega)).1 | exact (b7 _ (by omega)).2.1) | (refine (xup_n (by omega)).trans ((xup_n (by omega)).trans ?_); first | assumption | exact xup_s | exact (b7 _ (by omega)).1 | exact (b10 _ (by omega)).1 | exact (b7 _ (by omega)).2.1) | (refine (xup_n (by omega)).trans ((xup_n (by omega)).trans ((xup_n (by omega)).trans ?_)); first | assumption | exact xup_s | exact (b7 _ (by omega)).1 | exact (b10 _ (by omega)).1 | exact (b7 _ (by omega)).2.1)) (by rfl) ?_
    refine xs_if 34 12 r_30_9 rfl (fun hc1 => ?_) (fun hc1 => ?_)
    · have hc1 := (nI_leN rfl rfl (by omega) (by omega)).mp hc1
      refine xs_f 35 r_30_34 rfl ?_
      refine xs_ret r_30_35 rfl ?_
      have e : i = np := by omega
      subst e
      exact k
    · have hc1 := mt (nI_leN rfl rfl (by omega) (by omega)).mpr hc1
      refine xs_f 13 r_30_12 rfl ?_
      refine xs_f 14 r_30_13 rfl ?_
      refine xs_get 17 r_30_14 rfl rfl (by first | assumption | exact xup_s | exact (b7 _ (by omega)).1 | exact (b10 _ (by omega)).1 | exact (b7 _ (by omega)).2.1 | (refine (xup_n (by omega)).trans ?_; first | assumption | exact xup_s | exact (b7 _ (by omega)).1 | exact (b10 _ (by omega)).1 | exact (b7 _ (by omega)).2.1) | (refine (xup_n (by omega)).trans ((xup_n (by omega)).trans ?_); first | assumption | exact xup_s | exact (b7 _ (by omega)).1 | exact (b10 _ (by omega)).1 | exact (b7 _ (by omega)).2.1) | (refine (xup_n (by omega)).trans ((xup_n (by omega)).trans ((xup_n (by omega)).trans ?_)); first | assumption | exact xup_s | exact (b7 _ (by omega)).1 | exact (b10 _ (by omega)).1 | exact (b7 _ (by omega)).2.1)) (by rfl) ?_
      refine xs_f 18 r_30_17 rfl ?_
      refine xs_aldR 19 r_30_18 (fun _ _ => rfl) rfl rfl rfl (j := i) rfl (by first | assumption | (refine RA.fr ?_ (xup_n (by omega)); first | assumption) | (refine RA.fr (RA.fr ?_ (xup_n (by omega))) (xup_n (by omega)); first | assumption) | (refine RA.fr (RA.fr (RA.fr ?_ (xup_n (by omega))) (xup_n (by omega))) (xup_n (by omega)); first | assumption)) (by omega) ?_
      refine xs_get 22 r_30_19 rfl rfl (by first | assumption | exact xup_s | exact (b7 _ (by omega)).1 | exact (b10 _ (by omega)).1 | exact (b7 _ (by omega)).2.1 | (refine (xup_n (by omega)).trans ?_; first | assumption | exact xup_s | exact (b7 _ (by omega)).1 | exact (b10 _ (by omega)).1 | exact (b7 _ (by omega)).2.1) | (refine (xup_n (by omega)).trans ((xup_n (by omega)).trans ?_); first | assumption | exact xup_s | exact (b7 _ (by omega)).1 | exact (b10 _ (by omega)).1 | exact (b7 _ (by omega)).2.1) | (refine (xup_n (by omega)).trans ((xup_n (by omega)).trans ((xup_n (by omega)).trans ?_)); first | assumption | exact xup_s | exact (b7 _ (by omega)).1 | exact (b10 _ (by omega)).1 | exact (b7 _ (by omega)).2.1)) (by rfl) ?_
      refine xs_f 23 r_30_22 rfl ?_
      refine xs_call (lv2 := [(0, _), (1, _)]) r_30_23 rfl rfl (by decide) (xcan_0 rfl rfl (by first | assumption | exact xup_s | exact (b7 _ (by omega)).1 | exact (b10 _ (by omega)).1 | exact (b7 _ (by omega)).2.1 | (refine (xup_n (by omega)).trans ?_; first | assumption | exact xup_s | exact (b7 _ (by omega)).1 | exact (b10 _ (by omega)).1 | exact (b7 _ (by omega)).2.1) | (refine (xup_n (by omega)).trans ((xup_n (by omega)).trans ?_); first | assumption | exact xup_s | exact (b7 _ (by omega)).1 | exact (b10 _ (by omega)).1 | exact (b7 _ (by omega)).2.1) | (refine (xup_n (by omega)).trans ((xup_n (by omega)).trans ((xup_n (by omega)).trans ?_)); first | assumption | exact xup_s | exact (b7 _ (by omega)).1 | exact (b10 _ (by omega)).1 | exact (b7 _ (by omega)).2.1)) (by rfl)) rfl (c_4 (b7 i (by omega)).2 (by omega) h1 h9 ?_)
      refine xK_v rfl ?_
      refine xs_f 27 r_30_26 rfl ?_
      refine xs_f 28 (lv2 := [(2, _), (0, _), (1, _), (3, _)]) r_30_27 rfl ?_
      refine xs_f 31 (lv2 := [(3, _), (2, _), (0, _), (1, _)]) r_30_28 rfl ?_
      refine xs_f 4 r_30_31 rfl ?_
      exact xP_lv [(0, .ref b), (1, .int (nI j)), (2, .int (xsum (fun i => (pl i).2.2.2.1 j) (i + 1))), (3, .int (nI (i + 1)))] rfl ⟨rfl, rfl, rfl, (by rw [nI_succ]; rfl), trivial⟩ (ih (i + 1) (by omega) (by omega))

theorem c_30 {S : XSc} {d : Nat} {h : XH} {Q : XO → XH → Prop} {b np no : Nat} {nn : Int32} {sc : Nat} {ho : Int32} {TS TH tr : Nat → Int32} {pl : Nat → XPl} {q : Nat → XQu} {s : Nat → Nat} {R : Nat → Nat → Nat} (hB : BdP h.1 b np no nn sc ho TS TH tr pl q s R) (h32 : 32 ≤ b)  {j : Nat} (h1 : 1 ≤ j) (h9 : j ≤ 9) (k : Q (.inl (some (.int (xsum (fun i => (pl i).2.2.2.1 j) np)))) h) : xP S (d + 2) 30 0 [(0, .ref b), (1, .int (nI j))] [] h Q := by
  obtain ⟨b1, ⟨b2n, b2o, b2s⟩, b3, b4, b5, b6, b7, b8, b9, b10⟩ := id hB
  refine xs_f 1 r_30_0 rfl ?_
  refine xs_f 2 (lv2 := [(2, _), (0, _), (1, _)]) r_30_1 rfl ?_
  refine xs_f 3 r_30_2 rfl ?_
  refine xs_f 4 (lv2 := [(3, _), (2, _), (0, _), (1, _)]) r_30_3 rfl ?_
  exact xP_lv [(0, .ref b), (1, .int (nI j)), (2, .int (xsum (fun i => (pl i).2.2.2.1 j) 0)), (3, .int (nI 0))] rfl ⟨rfl, rfl, rfl, rfl, trivial⟩ (l_30 hB h32 h1 h9 k (np + 1) 0 (by omega) (by omega))

def errP (p : XPl) : Int32 := xerr p.2.2.2.1 p.2.2.2.2 9
def szP (p : XPl) : Int32 := xsum p.2.2.2.1 10
def htP (p : XPl) : Int32 := xsum p.2.2.2.2 10
/-- the best calibrated of the first n -/
def bst (pl : Nat → XPl) : Nat → Option Nat
  | 0 => none
  | n + 1 => if szP (pl n) ≤ 0 then bst pl n else match bst pl n with
    | none => some n
    | some j => if errP (pl n) < errP (pl j) then some n else some j
theorem bst_s {pl : Nat → XPl} {n : Nat} : bst pl (n + 1) = if szP (pl n) ≤ 0 then bst pl n else match bst pl n with
    | none => some n
    | some j => if errP (pl n) < errP (pl j) then some n else some j := rfl
def optI (o : Option Nat) : Int32 := match o with
  | none => -1
  | some j => nI j
def optE (pl : Nat → XPl) (o : Option Nat) : Int32 := match o with
  | none => 0
  | some j => errP (pl j)
theorem bst_lt {pl : Nat → XPl} : ∀ {n j : Nat}, bst pl n = some j → j < n
  | n + 1, j, h => by
    unfold bst at h
    split at h
    · exact Nat.lt_succ_of_lt (bst_lt h)
    · split at h
      · cases h; exact Nat.lt_succ_self _
      · rename_i j2 hj
        split at h
        · cases h; exact Nat.lt_succ_self _
        · cases h; exact Nat.lt_succ_of_lt (bst_lt hj)
theorem l_31 {S : XSc} {d : Nat} {h : XH} {Q : XO → XH → Prop} {b np no : Nat} {nn : Int32} {sc : Nat} {ho : Int32} {TS TH tr : Nat → Int32} {pl : Nat → XPl} {q : Nat → XQu} {s : Nat → Nat} {R : Nat → Nat → Nat} (hB : BdP h.1 b np no nn sc ho TS TH tr pl q s R) (h32 : 32 ≤ b) (k : Q (.inl (some (.int (optI (bst pl np))))) h) : ∀ (m : Nat) (i : Nat), np - i < m → (i ≤ np) → xP S (d + 2) 31 6 [(0, .ref b), (1, .int (optI (bst pl i))), (2, .int (optE pl (bst pl i))), (3, .int (nI i))] [] h Q := by
  intro m
  induction m with
  | zero => intro i hm; exact absurd hm (Nat.not_lt_zero _)
  | succ m ih =>
    intro i hm hi
    obtain ⟨b1, ⟨b2n, b2o, b2s⟩, b3, b4, b5, b6, b7, b8, b9, b10⟩ := id hB
    refine xs_f 7 r_31_6 rfl ?_
    refine xs_f 8 r_31_7 rfl ?_
    refine xs_get 11 r_31_8 rfl rfl (by first | assumption | exact xup_s | exact (b7 _ (by omega)).1 | exact (b10 _ (by omega)).1 | exact (b7 _ (by omega)).2.1 | (refine (xup_n (by omega)).trans ?_; first | assumption | exact xup_s | exact (b7 _ (by omega)).1 | exact (b10 _ (by omega)).1 | exact (b7 _ (by omega)).2.1) | (refine (xup_n (by omega)).trans ((xup_n (by omega)).trans ?_); first | assumption | exact xup_s | exact (b7 _ (by omega)).1 | exact (b10 _ (by omega)).1 | exact (b7 _ (by omega)).2.1) | (refine (xup_n (by omega)).trans ((xup_n (by omega)).trans ((xup_n (by omega)).trans ?_)); first | assumption | exact xup_s | exact (b7 _ (by omega)).1 | exact (b10 _ (by omega)).1 | exact (b7 _ (by omega)).2.1)) (by rfl) ?_
    refine xs_if 65 14 r_31_11 rfl (fun hc1 => ?_) (fun hc1 => ?_)
    · have hc1 := (nI_leN rfl rfl (by omega) (by omega)).mp hc1
      refine xs_f 66 r_31_65 rfl ?_
      refine xs_ret r_31_66 rfl ?_
      have e : i = np := by omega
      subst e
      exact k
    · have hc1 := mt (nI_leN rfl rfl (by omega) (by omega)).mpr hc1
      refine xs_f 15 r_31_14 rfl ?_
      refine xs_get 18 r_31_15 rfl rfl (by first | assumption | exact xup_s | exact (b7 _ (by omega)).1 | exact (b10 _ (by omega)).1 | exact (b7 _ (by omega)).2.1 | (refine (xup_n (by omega)).trans ?_; first | assumption | exact xup_s | exact (b7 _ (by omega)).1 | exact (b10 _ (by omega)).1 | exact (b7 _ (by omega)).2.1) | (refine (xup_n (by omega)).trans ((xup_n (by omega)).trans ?_); first | assumption | exact xup_s | exact (b7 _ (by omega)).1 | exact (b10 _ (by omega)).1 | exact (b7 _ (by omega)).2.1) | (refine (xup_n (by omega)).trans ((xup_n (by omega)).trans ((xup_n (by omega)).trans ?_)); first | assumption | exact xup_s | exact (b7 _ (by omega)).1 | exact (b10 _ (by omega)).1 | exact (b7 _ (by omega)).2.1)) (by rfl) ?_
      refine xs_f 19 r_31_18 rfl ?_
      refine xs_aldR 20 r_31_19 (fun _ _ => rfl) rfl rfl rfl (j := i) rfl (by first | assumption | (refine RA.fr ?_ (xup_n (by omega)); first | assumption) | (refine RA.fr (RA.fr ?_ (xup_n (by omega))) (xup_n (by omega)); first | assumption) | (refine RA.fr (RA.fr (RA.fr ?_ (xup_n (by omega))) (xup_n (by omega))) (xup_n (by omega)); first | assumption)) (by omega) ?_
      refine xs_get 23 r_31_20 rfl rfl (by first | assumption | exact xup_s | exact (b7 _ (by omega)).1 | exact (b10 _ (by omega)).1 | exact (b7 _ (by omega)).2.1 | (refine (xup_n (by omega)).trans ?_; first | assumption | exact xup_s | exact (b7 _ (by omega)).1 | exact (b10 _ (by omega)).1 | exact (b7 _ (by omega)).2.1) | (refine (xup_n (by omega)).trans ((xup_n (by omega)).trans ?_); first | assumption | exact xup_s | exact (b7 _ (by omega)).1 | exact (b10 _ (by omega)).1 | exact (b7 _ (by omega)).2.1) | (refine (xup_n (by omega)).trans ((xup_n (by omega)).trans ((xup_n (by omega)).trans ?_)); first | assumption | exact xup_s | exact (b7 _ (by omega)).1 | exact (b10 _ (by omega)).1 | exact (b7 _ (by omega)).2.1)) (by rfl) ?_
      refine xs_call (lv2 := [(0, _)]) r_31_23 rfl rfl (by decide) (xcan_0 rfl rfl (by first | assumption | exact xup_s | exact (b7 _ (by omega)).1 | exact (b10 _ (by omega)).1 | exact (b7 _ (by omega)).2.1 | (refine (xup_n (by omega)).trans ?_; first | assumption | exact xup_s | exact (b7 _ (by omega)).1 | exact (b10 _ (by omega)).1 | exact (b7 _ (by omega)).2.1) | (refine (xup_n (by omega)).trans ((xup_n (by omega)).trans ?_); first | assumption | exact xup_s | exact (b7 _ (by omega)).1 | exact (b10 _ (by omega)).1 | exact (b7 _ (by omega)).2.1) | (refine (xup_n (by omega)).trans ((xup_n (by omega)).trans ((xup_n (by omega)).trans ?_)); first | assumption | exact xup_s | exact (b7 _ (by omega)).1 | exact (b10 _ (by omega)).1 | exact (b7 _ (by omega)).2.1)) (by rfl)) rfl (c_8 (b7 i (by omega)).2 (by omega) ?_)
      refine xK_v rfl ?_
      refine xs_f 28 (lv2 := [(4, _), (0, _), (1, _), (2, _), (3, _)]) r_31_26 rfl ?_
      refine xs_f 29 r_31_28 rfl ?_
      refine xs_get 32 r_31_29 rfl rfl (by first | assumption | exact xup_s | exact (b7 _ (by omega)).1 | exact (b10 _ (by omega)).1 | exact (b7 _ (by omega)).2.1 | (refine (xup_n (by omega)).trans ?_; first | assumption | exact xup_s | exact (b7 _ (by omega)).1 | exact (b10 _ (by omega)).1 | exact (b7 _ (by omega)).2.1) | (refine (xup_n (by omega)).trans ((xup_n (by omega)).trans ?_); first | assumption | exact xup_s | exact (b7 _ (by omega)).1 | exact (b10 _ (by omega)).1 | exact (b7 _ (by omega)).2.1) | (refine (xup_n (by omega)).trans ((xup_n (by omega)).trans ((xup_n (by omega)).trans ?_)); first | assumption | exact xup_s | exact (b7 _ (by omega)).1 | exact (b10 _ (by omega)).1 | exact (b7 _ (by omega)).2.1)) (by rfl) ?_
      refine xs_f 33 r_31_32 rfl ?_
      refine xs_aldR 34 r_31_33 (fun _ _ => rfl) rfl rfl rfl (j := i) rfl (by first | assumption | (refine RA.fr ?_ (xup_n (by omega)); first | assumption) | (refine RA.fr (RA.fr ?_ (xup_n (by omega))) (xup_n (by omega)); first | assumption) | (refine RA.fr (RA.fr (RA.fr ?_ (xup_n (by omega))) (xup_n (by omega))) (xup_n (by omega)); first | assumption)) (by omega) ?_
      refine xs_get 37 r_31_34 rfl rfl (by first | assumption | exact xup_s | exact (b7 _ (by omega)).1 | exact (b10 _ (by omega)).1 | exact (b7 _ (by omega)).2.1 | (refine (xup_n (by omega)).trans ?_; first | assumption | exact xup_s | exact (b7 _ (by omega)).1 | exact (b10 _ (by omega)).1 | exact (b7 _ (by omega)).2.1) | (refine (xup_n (by omega)).trans ((xup_n (by omega)).trans ?_); first | assumption | exact xup_s | exact (b7 _ (by omega)).1 | exact (b10 _ (by omega)).1 | exact (b7 _ (by omega)).2.1) | (refine (xup_n (by omega)).trans ((xup_n (by omega)).trans ((xup_n (by omega)).trans ?_)); first | assumption | exact xup_s | exact (b7 _ (by omega)).1 | exact (b10 _ (by omega)).1 | exact (b7 _ (by omega)).2.1)) (by rfl) ?_
      refine xs_call (lv2 := [(0, _)]) r_31_37 rfl rfl (by decide) (xcan_0 rfl rfl (by first | assumption | exact xup_s | exact (b7 _ (by omega)).1 | exact (b10 _ (by omega)).1 | exact (b7 _ (by omega)).2.1 | (refine (xup_n (by omega)).trans ?_; first | assumption | exact xup_s | exact (b7 _ (by omega)).1 | exact (b10 _ (by omega)).1 | exact (b7 _ (by omega)).2.1) | (refine (xup_n (by omega)).trans ((xup_n (by omega)).trans ?_); first | assumption | exact xup_s | exact (b7 _ (by omega)).1 | exact (b10 _ (by omega)).1 | exact (b7 _ (by omega)).2.1) | (refine (xup_n (by omega)).trans ((xup_n (by omega)).trans ((xup_n (by omega)).trans ?_)); first | assumption | exact xup_s | exact (b7 _ (by omega)).1 | exact (b10 _ (by omega)).1 | exact (b7 _ (by omega)).2.1)) (by rfl)) rfl (c_6 (b7 i (by omega)).2 (by omega) ?_)
      refine xK_v rfl ?_
      refine xs_if 59 43 r_31_40 rfl (fun hz0 => ?_) (fun hz0 => ?_)
      · have hz : szP (pl i) ≤ 0 := hz0
        refine xs_f 62 (lv2 := [(3, _), (4, _), (0, _), (1, _), (2, _)]) r_31_59 rfl ?_
        refine xs_f 6 r_31_62 rfl ?_
        exact xP_lv [(0, .ref b), (1, .int (optI (bst pl (i + 1)))), (2, .int (optE pl (bst pl (i + 1)))), (3, .int (nI (i + 1)))] rfl ⟨rfl, (by rw [show bst pl (i + 1) = bst pl i from by rw [bst_s, if_pos hz]]; rfl), (by rw [show bst pl (i + 1) = bst pl i from by rw [bst_s, if_pos hz]]; rfl), (by rw [nI_succ]; rfl), trivial⟩ (ih (i + 1) (by omega) (by omega))
      · have hz : ¬ szP (pl i) ≤ 0 := hz0
        cases hb : bst pl i with
        | none =>
          show xP S (d + 2) 31 43 [(4, .int (errP (pl i))), (0, .ref b), (1, .int (-1)), (2, .int 0), (3, .int (nI i))] [] h Q
          refine xs_f 44 r_31_43 rfl ?_
          refine xs_f 45 r_31_44 rfl ?_
          refine xs_f 54 r_31_45 rfl ?_
          refine xs_f 55 r_31_54 rfl ?_
          refine xs_f 56 (lv2 := [(1, _), (4, _), (0, _), (2, _), (3, _)]) r_31_55 rfl ?_
          refine xs_f 58 r_31_56 rfl ?_
          refine xs_f 59 (lv2 := [(2, _), (1, _), (4, _), (0, _), (3, _)]) r_31_58 rfl ?_
          refine xs_f 62 (lv2 := [(3, _), (2, _), (1, _), (4, _), (0, _)]) r_31_59 rfl ?_
          refine xs_f 6 r_31_62 rfl ?_
          exact xP_lv [(0, .ref b), (1, .int (optI (bst pl (i + 1)))), (2, .int (optE pl (bst pl (i + 1)))), (3, .int (nI (i + 1)))] rfl ⟨rfl, (by rw [show bst pl (i + 1) = some i from by rw [bst_s, if_neg hz, hb]]; rfl), (by rw [show bst pl (i + 1) = some i from by rw [bst_s, if_neg hz, hb]]; rfl), (by rw [nI_succ]; rfl), trivial⟩ (ih (i + 1) (by omega) (by omega))
        | some j =>
          have hjl := bst_lt hb
          show xP S (d + 2) 31 43 [(4, .int (errP (pl i))), (0, .ref b), (1, .int (nI j)), (2, .int (errP (pl j))), (3, .int (nI i))] [] h Q
          refine xs_f 44 r_31_43 rfl ?_
          refine xs_f 45 r_31_44 rfl ?_
          refine xs_if 54 48 r_31_45 rfl (fun h1 => ?_) (fun h1 => ?_)
          · exact absurd h1 (nI_m1 rfl (by omega))
          · refine xs_f 50 r_31_48 rfl ?_
            refine xs_f 51 r_31_50 rfl ?_
            refine xs_if 59 54 r_31_51 rfl (fun h2 => ?_) (fun h2 => ?_)
            · refine xs_f 62 (lv2 := [(3, _), (4, _), (0, _), (1, _), (2, _)]) r_31_59 rfl ?_
              refine xs_f 6 r_31_62 rfl ?_
              first
                | exact xP_lv [(0, .ref b), (1, .int (optI (bst pl (i + 1)))), (2, .int (optE pl (bst pl (i + 1)))), (3, .int (nI (i + 1)))] rfl ⟨rfl, (by rw [show bst pl (i + 1) = some i from by rw [bst_s, if_neg hz, hb]; exact if_pos (Int32.not_le.mp h2)]; rfl), (by rw [show bst pl (i + 1) = some i from by rw [bst_s, if_neg hz, hb]; exact if_pos (Int32.not_le.mp h2)]; rfl), (by rw [nI_succ]; rfl), trivial⟩ (ih (i + 1) (by omega) (by omega))
                | exact xP_lv [(0, .ref b), (1, .int (optI (bst pl (i + 1)))), (2, .int (optE pl (bst pl (i + 1)))), (3, .int (nI (i + 1)))] rfl ⟨rfl, (by rw [show bst pl (i + 1) = some j from by rw [bst_s, if_neg hz, hb]; exact if_neg (Int32.not_lt.mpr h2)]; rfl), (by rw [show bst pl (i + 1) = some j from by rw [bst_s, if_neg hz, hb]; exact if_neg (Int32.not_lt.mpr h2)]; rfl), (by rw [nI_succ]; rfl), trivial⟩ (ih (i + 1) (by omega) (by omega))
            · refine xs_f 55 r_31_54 rfl ?_
              refine xs_f 56 (lv2 := [(1, _), (4, _), (0, _), (2, _), (3, _)]) r_31_55 rfl ?_
              refine xs_f 58 r_31_56 rfl ?_
              refine xs_f 59 (lv2 := [(2, _), (1, _), (4, _), (0, _), (3, _)]) r_31_58 rfl ?_
              refine xs_f 62 (lv2 := [(3, _), (2, _), (1, _), (4, _), (0, _)]) r_31_59 rfl ?_
              refine xs_f 6 r_31_62 rfl ?_
              first
                | exact xP_lv [(0, .ref b), (1, .int (optI (bst pl (i + 1)))), (2, .int (optE pl (bst pl (i + 1)))), (3, .int (nI (i + 1)))] rfl ⟨rfl, (by rw [show bst pl (i + 1) = some i from by rw [bst_s, if_neg hz, hb]; exact if_pos (Int32.not_le.mp h2)]; rfl), (by rw [show bst pl (i + 1) = some i from by rw [bst_s, if_neg hz, hb]; exact if_pos (Int32.not_le.mp h2)]; rfl), (by rw [nI_succ]; rfl), trivial⟩ (ih (i + 1) (by omega) (by omega))
                | exact xP_lv [(0, .ref b), (1, .int (optI (bst pl (i + 1)))), (2, .int (optE pl (bst pl (i + 1)))), (3, .int (nI (i + 1)))] rfl ⟨rfl, (by rw [show bst pl (i + 1) = some j from by rw [bst_s, if_neg hz, hb]; exact if_neg (Int32.not_lt.mpr h2)]; rfl), (by rw [show bst pl (i + 1) = some j from by rw [bst_s, if_neg hz, hb]; exact if_neg (Int32.not_lt.mpr h2)]; rfl), (by rw [nI_succ]; rfl), trivial⟩ (ih (i + 1) (by omega) (by omega))

theorem c_31 {S : XSc} {d : Nat} {h : XH} {Q : XO → XH → Prop} {b np no : Nat} {nn : Int32} {sc : Nat} {ho : Int32} {TS TH tr : Nat → Int32} {pl : Nat → XPl} {q : Nat → XQu} {s : Nat → Nat} {R : Nat → Nat → Nat} (hB : BdP h.1 b np no nn sc ho TS TH tr pl q s R) (h32 : 32 ≤ b)  (k : Q (.inl (some (.int (optI (bst pl np))))) h) : xP S (d + 2) 31 0 [(0, .ref b)] [] h Q := by
  obtain ⟨b1, ⟨b2n, b2o, b2s⟩, b3, b4, b5, b6, b7, b8, b9, b10⟩ := id hB
  refine xs_f 1 r_31_0 rfl ?_
  refine xs_f 2 (lv2 := [(1, _), (0, _)]) r_31_1 rfl ?_
  refine xs_f 3 r_31_2 rfl ?_
  refine xs_f 4 (lv2 := [(2, _), (1, _), (0, _)]) r_31_3 rfl ?_
  refine xs_f 5 r_31_4 rfl ?_
  refine xs_f 6 (lv2 := [(3, _), (2, _), (1, _), (0, _)]) r_31_5 rfl ?_
  exact xP_lv [(0, .ref b), (1, .int (optI (bst pl 0))), (2, .int (optE pl (bst pl 0))), (3, .int (nI 0))] rfl ⟨rfl, rfl, rfl, rfl, trivial⟩ (l_31 hB h32 k (np + 1) 0 (by omega) (by omega))

/-- does player i stand before player k -/
def prec (pl : Nat → XPl) (k i : Nat) : Bool := bif decide (i < k) then !(betB (pl k) (pl i)) else betB (pl i) (pl k)
def cntB (p : Nat → Bool) : Nat → Nat
  | 0 => 0
  | n + 1 => bif p n then cntB p n + 1 else cntB p n
theorem cntB_s {p : Nat → Bool} {n : Nat} : cntB p (n + 1) = bif p n then cntB p n + 1 else cntB p n := rfl
theorem cntB_le (p : Nat → Bool) : ∀ n, cntB p n ≤ n
  | 0 => Nat.le_refl _
  | n + 1 => by
    have := cntB_le p n
    unfold cntB
    cases p n
    · exact Nat.le_succ_of_le this
    · exact Nat.succ_le_succ this
theorem l_32 {S : XSc} {d : Nat} {h : XH} {Q : XO → XH → Prop} {b np no : Nat} {nn : Int32} {sc : Nat} {ho : Int32} {TS TH tr : Nat → Int32} {pl : Nat → XPl} {q : Nat → XQu} {s : Nat → Nat} {R : Nat → Nat → Nat} (hB : BdP h.1 b np no nn sc ho TS TH tr pl q s R) (h32 : 32 ≤ b) {x : Nat} (hx : x < np) (k : Q (.inl (some (.int (nI (cntB (prec pl x) np))))) h) : ∀ (m : Nat) (i : Nat), np - i < m → (i ≤ np) → xP S (d + 3) 32 4 [(0, .ref b), (1, .int (nI x)), (2, .int (nI (cntB (prec pl x) i))), (3, .int (nI i))] [] h Q := by
  intro m
  induction m with
  | zero => intro i hm; exact absurd hm (Nat.not_lt_zero _)
  | succ m ih =>
    intro i hm hi
    obtain ⟨b1, ⟨b2n, b2o, b2s⟩, b3, b4, b5, b6, b7, b8, b9, b10⟩ := id hB
    have hcl := cntB_le (prec pl x) i
    refine xs_f 5 r_32_4 rfl ?_
    refine xs_f 6 r_32_5 rfl ?_
    refine xs_get 9 r_32_6 rfl rfl (by first | assumption | exact xup_s | exact (b7 _ (by omega)).1 | exact (b10 _ (by omega)).1 | (refine (xup_n (by omega)).trans ?_; first | assumption | exact xup_s | exact (b7 _ (by omega)).1 | exact (b10 _ (by omega)).1) | (refine (xup_n (by omega)).trans ((xup_n (by omega)).trans ?_); first | assumption | exact xup_s | exact (b7 _ (by omega)).1 | exact (b10 _ (by omega)).1) | (refine (xup_n (by omega)).trans ((xup_n (by omega)).trans ((xup_n (by omega)).trans ?_)); first | assumption | exact xup_s | exact (b7 _ (by omega)).1 | exact (b10 _ (by omega)).1)) (by rfl) ?_
    refine xs_if 74 12 r_32_9 rfl (fun hc1 => ?_) (fun hc1 => ?_)
    · have hc1 := (nI_leN rfl rfl (by omega) (by omega)).mp hc1
      refine xs_f 75 r_32_74 rfl ?_
      refine xs_ret r_32_75 rfl ?_
      have e : i = np := by omega
      subst e
      exact k
    · have hc1 := mt (nI_leN rfl rfl (by omega) (by omega)).mpr hc1
      refine xs_f 13 r_32_12 rfl ?_
      refine xs_f 14 r_32_13 rfl ?_
      refine xs_if 43 17 r_32_14 rfl (fun hx1 => ?_) (fun hx1 => ?_)
      · have hx1 := (nI_leN rfl rfl (by omega) (by omega)).mp hx1
        have hx2 : ¬ i < x := by omega
        refine xs_f 44 r_32_43 rfl ?_
        refine xs_get 47 r_32_44 rfl rfl (by first | assumption | exact xup_s | exact (b7 _ (by omega)).1 | exact (b10 _ (by omega)).1 | (refine (xup_n (by omega)).trans ?_; first | assumption | exact xup_s | exact (b7 _ (by omega)).1 | exact (b10 _ (by omega)).1) | (refine (xup_n (by omega)).trans ((xup_n (by omega)).trans ?_); first | assumption | exact xup_s | exact (b7 _ (by omega)).1 | exact (b10 _ (by omega)).1) | (refine (xup_n (by omega)).trans ((xup_n (by omega)).trans ((xup_n (by omega)).trans ?_)); first | assumption | exact xup_s | exact (b7 _ (by omega)).1 | exact (b10 _ (by omega)).1)) (by rfl) ?_
        refine xs_f 48 r_32_47 rfl ?_
        refine xs_aldR 49 r_32_48 (fun _ _ => rfl) rfl rfl rfl (j := i) rfl (by first | assumption | (refine RA.fr ?_ (xup_n (by omega)); first | assumption) | (refine RA.fr (RA.fr ?_ (xup_n (by omega))) (xup_n (by omega)); first | assumption) | (refine RA.fr (RA.fr (RA.fr ?_ (xup_n (by omega))) (xup_n (by omega))) (xup_n (by omega)); first | assumption)) (by omega) ?_
        refine xs_f 50 r_32_49 rfl ?_
        refine xs_get 53 r_32_50 rfl rfl (by first | assumption | exact xup_s | exact (b7 _ (by omega)).1 | exact (b10 _ (by omega)).1 | (refine (xup_n (by omega)).trans ?_; first | assumption | exact xup_s | exact (b7 _ (by omega)).1 | exact (b10 _ (by omega)).1) | (refine (xup_n (by omega)).trans ((xup_n (by omega)).trans ?_); first | assumption | exact xup_s | exact (b7 _ (by omega)).1 | exact (b10 _ (by omega)).1) | (refine (xup_n (by omega)).trans ((xup_n (by omega)).trans ((xup_n (by omega)).trans ?_)); first | assumption | exact xup_s | exact (b7 _ (by omega)).1 | exact (b10 _ (by omega)).1)) (by rfl) ?_
        refine xs_f 54 r_32_53 rfl ?_
        refine xs_aldR 55 r_32_54 (fun _ _ => rfl) rfl rfl rfl (j := x) rfl (by first | assumption | (refine RA.fr ?_ (xup_n (by omega)); first | assumption) | (refine RA.fr (RA.fr ?_ (xup_n (by omega))) (xup_n (by omega)); first | assumption) | (refine RA.fr (RA.fr (RA.fr ?_ (xup_n (by omega))) (xup_n (by omega))) (xup_n (by omega)); first | assumption)) (by omega) ?_
        refine xs_call (lv2 := [(0, _), (1, _)]) r_32_55 rfl rfl (by decide) (xcan_0 rfl rfl (by first | assumption | exact xup_s | exact (b7 _ (by omega)).1 | exact (b10 _ (by omega)).1 | (refine (xup_n (by omega)).trans ?_; first | assumption | exact xup_s | exact (b7 _ (by omega)).1 | exact (b10 _ (by omega)).1) | (refine (xup_n (by omega)).trans ((xup_n (by omega)).trans ?_); first | assumption | exact xup_s | exact (b7 _ (by omega)).1 | exact (b10 _ (by omega)).1) | (refine (xup_n (by omega)).trans ((xup_n (by omega)).trans ((xup_n (by omega)).trans ?_)); first | assumption | exact xup_s | exact (b7 _ (by omega)).1 | exact (b10 _ (by omega)).1)) (by rfl)) rfl (c_74 (b7 i (by omega)) (b7 x (by omega)) (by omega) (by omega) ?_)
        refine xK_v rfl ?_
        refine xs_f 60 (lv2 := [(4, _), (0, _), (1, _), (2, _), (3, _)]) r_32_58 rfl ?_
        refine xs_f 62 r_32_60 rfl ?_
        refine xs_if 68 65 r_32_62 rfl (fun hw0 => ?_) (fun hw0 => ?_)
        · first | have hw := (bI_0 _).mp hw0 | skip
          refine xs_f 71 (lv2 := [(3, _), (4, _), (0, _), (1, _), (2, _)]) r_32_68 rfl ?_
          refine xs_f 4 r_32_71 rfl ?_
          first
            | exact xP_lv [(0, .ref b), (1, .int (nI x)), (2, .int (nI (cntB (prec pl x) (i + 1)))), (3, .int (nI (i + 1)))] rfl ⟨rfl, rfl, (by rw [show cntB (prec pl x) (i + 1) = cntB (prec pl x) i + 1 from by rw [cntB_s, show prec pl x i = true from by unfold prec; rw [decide_eq_true hx2, hw]; rfl]; rfl, nI_succ]; rfl), (by rw [nI_succ]; rfl), trivial⟩ (ih (i + 1) (by omega) (by omega))
            | exact xP_lv [(0, .ref b), (1, .int (nI x)), (2, .int (nI (cntB (prec pl x) (i + 1)))), (3, .int (nI (i + 1)))] rfl ⟨rfl, rfl, (by rw [show cntB (prec pl x) (i + 1) = cntB (prec pl x) i from by rw [cntB_s, show prec pl x i = false from by unfold prec; rw [decide_eq_true hx2, hw]; rfl]; rfl]; rfl), (by rw [nI_succ]; rfl), trivial⟩ (ih (i + 1) (by omega) (by omega))
            | exact xP_lv [(0, .ref b), (1, .int (nI x)), (2, .int (nI (cntB (prec pl x) (i + 1)))), (3, .int (nI (i + 1)))] rfl ⟨rfl, rfl, (by rw [show cntB (prec pl x) (i + 1) = cntB (prec pl x) i + 1 from by rw [cntB_s, show prec pl x i = true from by unfold prec; rw [decide_eq_false hx2, hw]; rfl]; rfl, nI_succ]; rfl), (by rw [nI_succ]; rfl), trivial⟩ (ih (i + 1) (by omega) (by omega))
            | exact xP_lv [(0, .ref b), (1, .int (nI x)), (2, .int (nI (cntB (prec pl x) (i + 1)))), (3, .int (nI (i + 1)))] rfl ⟨rfl, rfl, (by rw [show cntB (prec pl x) (i + 1) = cntB (prec pl x) i from by rw [cntB_s, show prec pl x i = false from by unfold prec; rw [decide_eq_false hx2, hw]; rfl]; rfl]; rfl), (by rw [nI_succ]; rfl), trivial⟩ (ih (i + 1) (by omega) (by omega))
        · first | have hw := bI_n0 hw0 | skip
          refine xs_f 68 (lv2 := [(2, _), (4, _), (0, _), (1, _), (3, _)]) r_32_65 rfl ?_
          refine xs_f 71 (lv2 := [(3, _), (2, _), (4, _), (0, _), (1, _)]) r_32_68 rfl ?_
          refine xs_f 4 r_32_71 rfl ?_
          first
            | exact xP_lv [(0, .ref b), (1, .int (nI x)), (2, .int (nI (cntB (prec pl x) (i + 1)))), (3, .int (nI (i + 1)))] rfl ⟨rfl, rfl, (by rw [show cntB (prec pl x) (i + 1) = cntB (prec pl x) i + 1 from by rw [cntB_s, show prec pl x i = true from by unfold prec; rw [decide_eq_true hx2, hw]; rfl]; rfl, nI_succ]; rfl), (by rw [nI_succ]; rfl), trivial⟩ (ih (i + 1) (by omega) (by omega))
            | exact xP_lv [(0, .ref b), (1, .int (nI x)), (2, .int (nI (cntB (prec pl x) (i + 1)))), (3, .int (nI (i + 1)))] rfl ⟨rfl, rfl, (by rw [show cntB (prec pl x) (i + 1) = cntB (prec pl x) i from by rw [cntB_s, show prec pl x i = false from by unfold prec; rw [decide_eq_true hx2, hw]; rfl]; rfl]; rfl), (by rw [nI_succ]; rfl), trivial⟩ (ih (i + 1) (by omega) (by omega))
            | exact xP_lv [(0, .ref b), (1, .int (nI x)), (2, .int (nI (cntB (prec pl x) (i + 1)))), (3, .int (nI (i + 1)))] rfl ⟨rfl, rfl, (by rw [show cntB (prec pl x) (i + 1) = cntB (prec pl x) i + 1 from by rw [cntB_s, show prec pl x i = true from by unfold prec; rw [decide_eq_false hx2, hw]; rfl]; rfl, nI_succ]; rfl), (by rw [nI_succ]; rfl), trivial⟩ (ih (i + 1) (by omega) (by omega))
            | exact xP_lv [(0, .ref b), (1, .int (nI x)), (2, .int (nI (cntB (prec pl x) (i + 1)))), (3, .int (nI (i + 1)))] rfl ⟨rfl, rfl, (by rw [show cntB (prec pl x) (i + 1) = cntB (prec pl x) i from by rw [cntB_s, show prec pl x i = false from by unfold prec; rw [decide_eq_false hx2, hw]; rfl]; rfl]; rfl), (by rw [nI_succ]; rfl), trivial⟩ (ih (i + 1) (by omega) (by omega))
      · have hx1 := mt (nI_leN rfl rfl (by omega) (by omega)).mpr hx1
        have hx2 : i < x := by omega
        refine xs_f 18 r_32_17 rfl ?_
        refine xs_get 21 r_32_18 rfl rfl (by first | assumption | exact xup_s | exact (b7 _ (by omega)).1 | exact (b10 _ (by omega)).1 | (refine (xup_n (by omega)).trans ?_; first | assumption | exact xup_s | exact (b7 _ (by omega)).1 | exact (b10 _ (by omega)).1) | (refine (xup_n (by omega)).trans ((xup_n (by omega)).trans ?_); first | assumption | exact xup_s | exact (b7 _ (by omega)).1 | exact (b10 _ (by omega)).1) | (refine (xup_n (by omega)).trans ((xup_n (by omega)).trans ((xup_n (by omega)).trans ?_)); first | assumption | exact xup_s | exact (b7 _ (by omega)).1 | exact (b10 _ (by omega)).1)) (by rfl) ?_
        refine xs_f 22 r_32_21 rfl ?_
        refine xs_aldR 23 r_32_22 (fun _ _ => rfl) rfl rfl rfl (j := x) rfl (by first | assumption | (refine RA.fr ?_ (xup_n (by omega)); first | assumption) | (refine RA.fr (RA.fr ?_ (xup_n (by omega))) (xup_n (by omega)); first | assumption) | (refine RA.fr (RA.fr (RA.fr ?_ (xup_n (by omega))) (xup_n (by omega))) (xup_n (by omega)); first | assumption)) (by omega) ?_
        refine xs_f 24 r_32_23 rfl ?_
        refine xs_get 27 r_32_24 rfl rfl (by first | assumption | exact xup_s | exact (b7 _ (by omega)).1 | exact (b10 _ (by omega)).1 | (refine (xup_n (by omega)).trans ?_; first | assumption | exact xup_s | exact (b7 _ (by omega)).1 | exact (b10 _ (by omega)).1) | (refine (xup_n (by omega)).trans ((xup_n (by omega)).trans ?_); first | assumption | exact xup_s | exact (b7 _ (by omega)).1 | exact (b10 _ (by omega)).1) | (refine (xup_n (by omega)).trans ((xup_n (by omega)).trans ((xup_n (by omega)).trans ?_)); first | assumption | exact xup_s | exact (b7 _ (by omega)).1 | exact (b10 _ (by omega)).1)) (by rfl) ?_
        refine xs_f 28 r_32_27 rfl ?_
        refine xs_aldR 29 r_32_28 (fun _ _ => rfl) rfl rfl rfl (j := i) rfl (by first | assumption | (refine RA.fr ?_ (xup_n (by omega)); first | assumption) | (refine RA.fr (RA.fr ?_ (xup_n (by omega))) (xup_n (by omega)); first | assumption) | (refine RA.fr (RA.fr (RA.fr ?_ (xup_n (by omega))) (xup_n (by omega))) (xup_n (by omega)); first | assumption)) (by omega) ?_
        refine xs_call (lv2 := [(0, _), (1, _)]) r_32_29 rfl rfl (by decide) (xcan_0 rfl rfl (by first | assumption | exact xup_s | exact (b7 _ (by omega)).1 | exact (b10 _ (by omega)).1 | (refine (xup_n (by omega)).trans ?_; first | assumption | exact xup_s | exact (b7 _ (by omega)).1 | exact (b10 _ (by omega)).1) | (refine (xup_n (by omega)).trans ((xup_n (by omega)).trans ?_); first | assumption | exact xup_s | exact (b7 _ (by omega)).1 | exact (b10 _ (by omega)).1) | (refine (xup_n (by omega)).trans ((xup_n (by omega)).trans ((xup_n (by omega)).trans ?_)); first | assumption | exact xup_s | exact (b7 _ (by omega)).1 | exact (b10 _ (by omega)).1)) (by rfl)) rfl (c_74 (b7 x (by omega)) (b7 i (by omega)) (by omega) (by omega) ?_)
        refine xK_v rfl ?_
        refine xs_if 35 39 r_32_32 rfl (fun hw0 => ?_) (fun hw0 => ?_)
        · have hw := (bI_0 _).mp hw0
          refine xs_f 36 r_32_35 rfl ?_
          refine xs_f 58 r_32_36 rfl ?_
          refine xs_f 60 (lv2 := [(4, _), (0, _), (1, _), (2, _), (3, _)]) r_32_58 rfl ?_
          refine xs_f 62 r_32_60 rfl ?_
          refine xs_f 65 r_32_62 rfl ?_
          refine xs_f 68 (lv2 := [(2, _), (4, _), (0, _), (1, _), (3, _)]) r_32_65 rfl ?_
          refine xs_f 71 (lv2 := [(3, _), (2, _), (4, _), (0, _), (1, _)]) r_32_68 rfl ?_
          refine xs_f 4 r_32_71 rfl ?_
          first
            | exact xP_lv [(0, .ref b), (1, .int (nI x)), (2, .int (nI (cntB (prec pl x) (i + 1)))), (3, .int (nI (i + 1)))] rfl ⟨rfl, rfl, (by rw [show cntB (prec pl x) (i + 1) = cntB (prec pl x) i + 1 from by rw [cntB_s, show prec pl x i = true from by unfold prec; rw [decide_eq_true hx2, hw]; rfl]; rfl, nI_succ]; rfl), (by rw [nI_succ]; rfl), trivial⟩ (ih (i + 1) (by omega) (by omega))
            | exact xP_lv [(0, .ref b), (1, .int (nI x)), (2, .int (nI (cntB (prec pl x) (i + 1)))), (3, .int (nI (i + 1)))] rfl ⟨rfl, rfl, (by rw [show cntB (prec pl x) (i + 1) = cntB (prec pl x) i from by rw [cntB_s, show prec pl x i = false from by unfold prec; rw [decide_eq_true hx2, hw]; rfl]; rfl]; rfl), (by rw [nI_succ]; rfl), trivial⟩ (ih (i + 1) (by omega) (by omega))
            | exact xP_lv [(0, .ref b), (1, .int (nI x)), (2, .int (nI (cntB (prec pl x) (i + 1)))), (3, .int (nI (i + 1)))] rfl ⟨rfl, rfl, (by rw [show cntB (prec pl x) (i + 1) = cntB (prec pl x) i + 1 from by rw [cntB_s, show prec pl x i = true from by unfold prec; rw [decide_eq_false hx2, hw]; rfl]; rfl, nI_succ]; rfl), (by rw [nI_succ]; rfl), trivial⟩ (ih (i + 1) (by omega) (by omega))
            | exact xP_lv [(0, .ref b), (1, .int (nI x)), (2, .int (nI (cntB (prec pl x) (i + 1)))), (3, .int (nI (i + 1)))] rfl ⟨rfl, rfl, (by rw [show cntB (prec pl x) (i + 1) = cntB (prec pl x) i from by rw [cntB_s, show prec pl x i = false from by unfold prec; rw [decide_eq_false hx2, hw]; rfl]; rfl]; rfl), (by rw [nI_succ]; rfl), trivial⟩ (ih (i + 1) (by omega) (by omega))
        · have hw := bI_n0 hw0
          refine xs_f 40 r_32_39 rfl ?_
          refine xs_f 58 r_32_40 rfl ?_
          refine xs_f 60 (lv2 := [(4, _), (0, _), (1, _), (2, _), (3, _)]) r_32_58 rfl ?_
          refine xs_f 62 r_32_60 rfl ?_
          refine xs_f 68 r_32_62 rfl ?_
          refine xs_f 71 (lv2 := [(3, _), (4, _), (0, _), (1, _), (2, _)]) r_32_68 rfl ?_
          refine xs_f 4 r_32_71 rfl ?_
          first
            | exact xP_lv [(0, .ref b), (1, .int (nI x)), (2, .int (nI (cntB (prec pl x) (i + 1)))), (3, .int (nI (i + 1)))] rfl ⟨rfl, rfl, (by rw [show cntB (prec pl x) (i + 1) = cntB (prec pl x) i + 1 from by rw [cntB_s, show prec pl x i = true from by unfold prec; rw [decide_eq_true hx2, hw]; rfl]; rfl, nI_succ]; rfl), (by rw [nI_succ]; rfl), trivial⟩ (ih (i + 1) (by omega) (by omega))
            | exact xP_lv [(0, .ref b), (1, .int (nI x)), (2, .int (nI (cntB (prec pl x) (i + 1)))), (3, .int (nI (i + 1)))] rfl ⟨rfl, rfl, (by rw [show cntB (prec pl x) (i + 1) = cntB (prec pl x) i from by rw [cntB_s, show prec pl x i = false from by unfold prec; rw [decide_eq_true hx2, hw]; rfl]; rfl]; rfl), (by rw [nI_succ]; rfl), trivial⟩ (ih (i + 1) (by omega) (by omega))
            | exact xP_lv [(0, .ref b), (1, .int (nI x)), (2, .int (nI (cntB (prec pl x) (i + 1)))), (3, .int (nI (i + 1)))] rfl ⟨rfl, rfl, (by rw [show cntB (prec pl x) (i + 1) = cntB (prec pl x) i + 1 from by rw [cntB_s, show prec pl x i = true from by unfold prec; rw [decide_eq_false hx2, hw]; rfl]; rfl, nI_succ]; rfl), (by rw [nI_succ]; rfl), trivial⟩ (ih (i + 1) (by omega) (by omega))
            | exact xP_lv [(0, .ref b), (1, .int (nI x)), (2, .int (nI (cntB (prec pl x) (i + 1)))), (3, .int (nI (i + 1)))] rfl ⟨rfl, rfl, (by rw [show cntB (prec pl x) (i + 1) = cntB (prec pl x) i from by rw [cntB_s, show prec pl x i = false from by unfold prec; rw [decide_eq_false hx2, hw]; rfl]; rfl]; rfl), (by rw [nI_succ]; rfl), trivial⟩ (ih (i + 1) (by omega) (by omega))

theorem c_32 {S : XSc} {d : Nat} {h : XH} {Q : XO → XH → Prop} {b np no : Nat} {nn : Int32} {sc : Nat} {ho : Int32} {TS TH tr : Nat → Int32} {pl : Nat → XPl} {q : Nat → XQu} {s : Nat → Nat} {R : Nat → Nat → Nat} (hB : BdP h.1 b np no nn sc ho TS TH tr pl q s R) (h32 : 32 ≤ b)  {x : Nat} (hx : x < np) (k : Q (.inl (some (.int (nI (cntB (prec pl x) np))))) h) : xP S (d + 3) 32 0 [(0, .ref b), (1, .int (nI x))] [] h Q := by
  obtain ⟨b1, ⟨b2n, b2o, b2s⟩, b3, b4, b5, b6, b7, b8, b9, b10⟩ := id hB
  refine xs_f 1 r_32_0 rfl ?_
  refine xs_f 2 (lv2 := [(2, _), (0, _), (1, _)]) r_32_1 rfl ?_
  refine xs_f 3 r_32_2 rfl ?_
  refine xs_f 4 (lv2 := [(3, _), (2, _), (0, _), (1, _)]) r_32_3 rfl ?_
  exact xP_lv [(0, .ref b), (1, .int (nI x)), (2, .int (nI (cntB (prec pl x) 0))), (3, .int (nI 0))] rfl ⟨rfl, rfl, rfl, rfl, trivial⟩ (l_32 hB h32 hx k (np + 1) 0 (by omega) (by omega))

theorem l_33 {S : XSc} {d : Nat} {h : XH} {Q : XO → XH → Prop} {b np no : Nat} {nn : Int32} {sc : Nat} {ho : Int32} {TS TH tr : Nat → Int32} {pl : Nat → XPl} {q : Nat → XQu} {s : Nat → Nat} {R : Nat → Nat → Nat} (hB : BdP h.1 b np no nn sc ho TS TH tr pl q s R) (h32 : 32 ≤ b) (hs : (xacc (ho + xsum (fun i => stkQ (q i)) no) (fun i => (pl i).1) np) = 100 * nI np) (k : Q (.inl (some (.int 1))) h) : ∀ (m : Nat) (i : Nat), np - i < m → (i ≤ np) → xP S (d + 2) 33 12 [(0, .ref b), (1, .int (xacc (ho + xsum (fun i => stkQ (q i)) no) (fun i => (pl i).1) i)), (2, .int (nI i))] [] h Q := by
  intro m
  induction m with
  | zero => intro i hm; exact absurd hm (Nat.not_lt_zero _)
  | succ m ih =>
    intro i hm hi
    obtain ⟨b1, ⟨b2n, b2o, b2s⟩, b3, b4, b5, b6, b7, b8, b9, b10⟩ := id hB
    refine xs_f 13 r_33_12 rfl ?_
    refine xs_f 14 r_33_13 rfl ?_
    refine xs_get 17 r_33_14 rfl rfl (by first | assumption | exact xup_s | exact (b7 _ (by omega)).1 | exact (b10 _ (by omega)).1 | (refine (xup_n (by omega)).trans ?_; first | assumption | exact xup_s | exact (b7 _ (by omega)).1 | exact (b10 _ (by omega)).1) | (refine (xup_n (by omega)).trans ((xup_n (by omega)).trans ?_); first | assumption | exact xup_s | exact (b7 _ (by omega)).1 | exact (b10 _ (by omega)).1) | (refine (xup_n (by omega)).trans ((xup_n (by omega)).trans ((xup_n (by omega)).trans ?_)); first | assumption | exact xup_s | exact (b7 _ (by omega)).1 | exact (b10 _ (by omega)).1)) (by rfl) ?_
    refine xs_if 38 20 r_33_17 rfl (fun hc1 => ?_) (fun hc1 => ?_)
    · have hc1 := (nI_leN rfl rfl (by omega) (by omega)).mp hc1
      refine xs_f 39 r_33_38 rfl ?_
      refine xs_f 41 r_33_39 rfl ?_
      refine xs_f 42 r_33_41 rfl ?_
      refine xs_get 45 r_33_42 rfl rfl (by first | assumption | exact xup_s | exact (b7 _ (by omega)).1 | exact (b10 _ (by omega)).1 | (refine (xup_n (by omega)).trans ?_; first | assumption | exact xup_s | exact (b7 _ (by omega)).1 | exact (b10 _ (by omega)).1) | (refine (xup_n (by omega)).trans ((xup_n (by omega)).trans ?_); first | assumption | exact xup_s | exact (b7 _ (by omega)).1 | exact (b10 _ (by omega)).1) | (refine (xup_n (by omega)).trans ((xup_n (by omega)).trans ((xup_n (by omega)).trans ?_)); first | assumption | exact xup_s | exact (b7 _ (by omega)).1 | exact (b10 _ (by omega)).1)) (by rfl) ?_
      refine xs_f 46 r_33_45 rfl ?_
      refine xs_if 49 53 r_33_46 rfl (fun he => ?_) (fun he => ?_)
      · refine xs_f 50 r_33_49 rfl ?_
        refine xs_f 54 r_33_50 rfl ?_
        refine xs_ret r_33_54 rfl ?_
        exact k
      · have e : i = np := by omega
        subst e
        exact absurd hs he
    · have hc1 := mt (nI_leN rfl rfl (by omega) (by omega)).mpr hc1
      refine xs_f 21 r_33_20 rfl ?_
      refine xs_f 22 r_33_21 rfl ?_
      refine xs_get 25 r_33_22 rfl rfl (by first | assumption | exact xup_s | exact (b7 _ (by omega)).1 | exact (b10 _ (by omega)).1 | (refine (xup_n (by omega)).trans ?_; first | assumption | exact xup_s | exact (b7 _ (by omega)).1 | exact (b10 _ (by omega)).1) | (refine (xup_n (by omega)).trans ((xup_n (by omega)).trans ?_); first | assumption | exact xup_s | exact (b7 _ (by omega)).1 | exact (b10 _ (by omega)).1) | (refine (xup_n (by omega)).trans ((xup_n (by omega)).trans ((xup_n (by omega)).trans ?_)); first | assumption | exact xup_s | exact (b7 _ (by omega)).1 | exact (b10 _ (by omega)).1)) (by rfl) ?_
      refine xs_f 26 r_33_25 rfl ?_
      refine xs_aldR 27 r_33_26 (fun _ _ => rfl) rfl rfl rfl (j := i) rfl (by first | assumption | (refine RA.fr ?_ (xup_n (by omega)); first | assumption) | (refine RA.fr (RA.fr ?_ (xup_n (by omega))) (xup_n (by omega)); first | assumption) | (refine RA.fr (RA.fr (RA.fr ?_ (xup_n (by omega))) (xup_n (by omega))) (xup_n (by omega)); first | assumption)) (by omega) ?_
      refine xs_get 30 r_33_27 rfl rfl (by first | assumption | exact xup_s | exact (b7 _ (by omega)).1 | exact (b10 _ (by omega)).1 | (refine (xup_n (by omega)).trans ?_; first | assumption | exact xup_s | exact (b7 _ (by omega)).1 | exact (b10 _ (by omega)).1) | (refine (xup_n (by omega)).trans ((xup_n (by omega)).trans ?_); first | assumption | exact xup_s | exact (b7 _ (by omega)).1 | exact (b10 _ (by omega)).1) | (refine (xup_n (by omega)).trans ((xup_n (by omega)).trans ((xup_n (by omega)).trans ?_)); first | assumption | exact xup_s | exact (b7 _ (by omega)).1 | exact (b10 _ (by omega)).1)) (by rfl) ?_
      refine xs_f 31 r_33_30 rfl ?_
      refine xs_f 32 (lv2 := [(1, _), (0, _), (2, _)]) r_33_31 rfl ?_
      refine xs_f 35 (lv2 := [(2, _), (1, _), (0, _)]) r_33_32 rfl ?_
      refine xs_f 12 r_33_35 rfl ?_
      exact xP_lv [(0, .ref b), (1, .int (xacc (ho + xsum (fun i => stkQ (q i)) no) (fun i => (pl i).1) (i + 1))), (2, .int (nI (i + 1)))] rfl ⟨rfl, rfl, (by rw [nI_succ]; rfl), trivial⟩ (ih (i + 1) (by omega) (by omega))

theorem c_33 {S : XSc} {d : Nat} {h : XH} {Q : XO → XH → Prop} {b np no : Nat} {nn : Int32} {sc : Nat} {ho : Int32} {TS TH tr : Nat → Int32} {pl : Nat → XPl} {q : Nat → XQu} {s : Nat → Nat} {R : Nat → Nat → Nat} (hB : BdP h.1 b np no nn sc ho TS TH tr pl q s R) (h32 : 32 ≤ b)  (hs : (xacc (ho + xsum (fun i => stkQ (q i)) no) (fun i => (pl i).1) np) = 100 * nI np) (k : Q (.inl (some (.int 1))) h) : xP S (d + 2) 33 0 [(0, .ref b)] [] h Q := by
  obtain ⟨b1, ⟨b2n, b2o, b2s⟩, b3, b4, b5, b6, b7, b8, b9, b10⟩ := id hB
  refine xs_f 1 r_33_0 rfl ?_
  refine xs_get 4 r_33_1 rfl rfl (by first | assumption | exact xup_s | exact (b7 _ (by omega)).1 | exact (b10 _ (by omega)).1 | (refine (xup_n (by omega)).trans ?_; first | assumption | exact xup_s | exact (b7 _ (by omega)).1 | exact (b10 _ (by omega)).1) | (refine (xup_n (by omega)).trans ((xup_n (by omega)).trans ?_); first | assumption | exact xup_s | exact (b7 _ (by omega)).1 | exact (b10 _ (by omega)).1) | (refine (xup_n (by omega)).trans ((xup_n (by omega)).trans ((xup_n (by omega)).trans ?_)); first | assumption | exact xup_s | exact (b7 _ (by omega)).1 | exact (b10 _ (by omega)).1)) (by rfl) ?_
  refine xs_f 5 r_33_4 rfl ?_
  refine xs_call (lv2 := [(0, _)]) r_33_5 rfl rfl (by decide) (xcan_0 rfl rfl (by first | assumption | exact xup_s | exact (b7 _ (by omega)).1 | exact (b10 _ (by omega)).1 | (refine (xup_n (by omega)).trans ?_; first | assumption | exact xup_s | exact (b7 _ (by omega)).1 | exact (b10 _ (by omega)).1) | (refine (xup_n (by omega)).trans ((xup_n (by omega)).trans ?_); first | assumption | exact xup_s | exact (b7 _ (by omega)).1 | exact (b10 _ (by omega)).1) | (refine (xup_n (by omega)).trans ((xup_n (by omega)).trans ((xup_n (by omega)).trans ?_)); first | assumption | exact xup_s | exact (b7 _ (by omega)).1 | exact (b10 _ (by omega)).1)) (by rfl)) rfl (c_29 hB h32 ?_)
  refine xK_v rfl ?_
  refine xs_f 9 r_33_8 rfl ?_
  refine xs_f 10 (lv2 := [(1, _), (0, _)]) r_33_9 rfl ?_
  refine xs_f 11 r_33_10 rfl ?_
  refine xs_f 12 (lv2 := [(2, _), (1, _), (0, _)]) r_33_11 rfl ?_
  exact xP_lv [(0, .ref b), (1, .int (xacc (ho + xsum (fun i => stkQ (q i)) no) (fun i => (pl i).1) 0)), (2, .int (nI 0))] rfl ⟨rfl, rfl, rfl, trivial⟩ (l_33 hB h32 hs k (np + 1) 0 (by omega) (by omega))

theorem l_34 {S : XSc} {d : Nat} {h : XH} {Q : XO → XH → Prop} {b np no : Nat} {nn : Int32} {sc : Nat} {ho : Int32} {TS TH tr : Nat → Int32} {pl : Nat → XPl} {q : Nat → XQu} {s : Nat → Nat} {R : Nat → Nat → Nat} (hB : BdP h.1 b np no nn sc ho TS TH tr pl q s R) (h32 : 32 ≤ b) (hs : ∀ j, 1 ≤ j → j ≤ 9 → TS j = xsum (fun i => (pl i).2.2.2.1 j) np) (k : Q (.inl (some (.int 1))) h) : ∀ (m : Nat) (i : Nat), 10 - i < m → (1 ≤ i) → (i ≤ 10) → xP S (d + 3) 34 2 [(0, .ref b), (1, .int (nI i))] [] h Q := by
  intro m
  induction m with
  | zero => intro i hm; exact absurd hm (Nat.not_lt_zero _)
  | succ m ih =>
    intro i hm h1 hi
    obtain ⟨b1, ⟨b2n, b2o, b2s⟩, b3, b4, b5, b6, b7, b8, b9, b10⟩ := id hB
    refine xs_f 3 r_34_2 rfl ?_
    refine xs_f 5 r_34_3 rfl ?_
    refine xs_if 32 8 r_34_5 rfl (fun hc1 => ?_) (fun hc1 => ?_)
    · have hc1 := (nI_ltN (nI_k 9) rfl (by omega) (by omega)).mp hc1
      refine xs_f 33 r_34_32 rfl ?_
      refine xs_ret r_34_33 rfl ?_
      exact k
    · have hc1 := mt (nI_ltN (nI_k 9) rfl (by omega) (by omega)).mpr hc1
      refine xs_f 9 r_34_8 rfl ?_
      refine xs_get 12 r_34_9 rfl rfl (by first | assumption | exact xup_s | exact (b7 _ (by omega)).1 | exact (b10 _ (by omega)).1 | exact b5.1 | (refine (xup_n (by omega)).trans ?_; first | assumption | exact xup_s | exact (b7 _ (by omega)).1 | exact (b10 _ (by omega)).1 | exact b5.1) | (refine (xup_n (by omega)).trans ((xup_n (by omega)).trans ?_); first | assumption | exact xup_s | exact (b7 _ (by omega)).1 | exact (b10 _ (by omega)).1 | exact b5.1) | (refine (xup_n (by omega)).trans ((xup_n (by omega)).trans ((xup_n (by omega)).trans ?_)); first | assumption | exact xup_s | exact (b7 _ (by omega)).1 | exact (b10 _ (by omega)).1 | exact b5.1)) (by rfl) ?_
      refine xs_f 13 r_34_12 rfl ?_
      refine xs_call (lv2 := [(0, _), (1, _)]) r_34_13 rfl rfl (by decide) (xcan_0 rfl rfl (by first | assumption | exact xup_s | exact (b7 _ (by omega)).1 | exact (b10 _ (by omega)).1 | exact b5.1 | (refine (xup_n (by omega)).trans ?_; first | assumption | exact xup_s | exact (b7 _ (by omega)).1 | exact (b10 _ (by omega)).1 | exact b5.1) | (refine (xup_n (by omega)).trans ((xup_n (by omega)).trans ?_); first | assumption | exact xup_s | exact (b7 _ (by omega)).1 | exact (b10 _ (by omega)).1 | exact b5.1) | (refine (xup_n (by omega)).trans ((xup_n (by omega)).trans ((xup_n (by omega)).trans ?_)); first | assumption | exact xup_s | exact (b7 _ (by omega)).1 | exact (b10 _ (by omega)).1 | exact b5.1)) (by rfl)) rfl (c_4 b5 (by omega) h1 (by omega) ?_)
      refine xK_v rfl ?_
      refine xs_f 17 r_34_16 rfl ?_
      refine xs_f 18 r_34_17 rfl ?_
      refine xs_call (lv2 := [(0, _), (1, _)]) r_34_18 rfl rfl (by decide) (xcan_0 rfl rfl (by first | assumption | exact xup_s | exact (b7 _ (by omega)).1 | exact (b10 _ (by omega)).1 | exact b5.1 | (refine (xup_n (by omega)).trans ?_; first | assumption | exact xup_s | exact (b7 _ (by omega)).1 | exact (b10 _ (by omega)).1 | exact b5.1) | (refine (xup_n (by omega)).trans ((xup_n (by omega)).trans ?_); first | assumption | exact xup_s | exact (b7 _ (by omega)).1 | exact (b10 _ (by omega)).1 | exact b5.1) | (refine (xup_n (by omega)).trans ((xup_n (by omega)).trans ((xup_n (by omega)).trans ?_)); first | assumption | exact xup_s | exact (b7 _ (by omega)).1 | exact (b10 _ (by omega)).1 | exact b5.1)) (by rfl)) rfl (c_30 hB h32 h1 (by omega) ?_)
      refine xK_v rfl ?_
      refine xs_if 26 24 r_34_21 rfl (fun he => ?_) (fun he => ?_)
      · refine xs_f 29 (lv2 := [(1, _), (0, _)]) r_34_26 rfl ?_
        refine xs_f 2 r_34_29 rfl ?_
        exact xP_lv [(0, .ref b), (1, .int (nI (i + 1)))] rfl ⟨rfl, (by rw [nI_succ]; rfl), trivial⟩ (ih (i + 1) (by omega) (by omega) (by omega))
      · exact absurd (hs i h1 (by omega)) he

theorem c_34 {S : XSc} {d : Nat} {h : XH} {Q : XO → XH → Prop} {b np no : Nat} {nn : Int32} {sc : Nat} {ho : Int32} {TS TH tr : Nat → Int32} {pl : Nat → XPl} {q : Nat → XQu} {s : Nat → Nat} {R : Nat → Nat → Nat} (hB : BdP h.1 b np no nn sc ho TS TH tr pl q s R) (h32 : 32 ≤ b)  (hs : ∀ j, 1 ≤ j → j ≤ 9 → TS j = xsum (fun i => (pl i).2.2.2.1 j) np) (k : Q (.inl (some (.int 1))) h) : xP S (d + 3) 34 0 [(0, .ref b)] [] h Q := by
  obtain ⟨b1, ⟨b2n, b2o, b2s⟩, b3, b4, b5, b6, b7, b8, b9, b10⟩ := id hB
  refine xs_f 1 r_34_0 rfl ?_
  refine xs_f 2 (lv2 := [(1, _), (0, _)]) r_34_1 rfl ?_
  exact xP_lv [(0, .ref b), (1, .int (nI 1))] rfl ⟨rfl, rfl, trivial⟩ (l_34 hB h32 hs k 11 1 (by omega) (by omega) (by omega))

def rfnd (p : Int32) (q : XQu) : Int32 := if rnk q.2.2.2 q.2.2.1 p < q.2.2.1 then (q.2.2.2 (rnk q.2.2.2 q.2.2.1 p)).2.2.2.2 else 0
def remQ (p : Int32) (q : XQu) : XQu := if rnk q.2.2.2 q.2.2.1 p < q.2.2.1 then (q.1, (q.2.1, (q.2.2.1 - 1, rot q.2.2.2 (rnk q.2.2.2 q.2.2.1 p) (q.2.2.1 - 1)))) else q
def hasQ (p : Int32) (q : XQu) : Bool := decide (rnk q.2.2.2 q.2.2.1 p < q.2.2.1)
theorem xlt_s {q : Nat → XQu} {p : Int32} (i : Nat) : (fun x => if x < i + 1 then remQ p (q x) else q x) = xw (fun x => if x < i then remQ p (q x) else q x) i (remQ p (q i)) := funext fun x => by
  unfold xw
  dsimp only
  by_cases z : x = i
  · rw [if_pos z, z, if_pos (by omega)]
  · rw [if_neg z]
    by_cases z2 : x < i
    · rw [if_pos z2, if_pos (by omega)]
    · rw [if_neg z2, if_neg (by omega)]
theorem l_28 {S : XSc} {d : Nat} {h : XH} {Q : XO → XH → Prop} {b np no : Nat} {nn : Int32} {sc : Nat} {ho : Int32} {TS TH tr : Nat → Int32} {pl : Nat → XPl} {q : Nat → XQu} {s : Nat → Nat} {R : Nat → Nat → Nat} (hB : BdP h.1 b np no nn sc ho TS TH tr pl q s R) (h32 : 32 ≤ b) {x : Nat} (hx : x < 5) (k : ∀ f R, BdP f b np no nn sc ho TS TH tr (xw pl x (xacc (pl x).1 (fun i => rfnd (nI x) (q i)) no, ((pl x).2.1, (true, (pl x).2.2.2)))) (fun y => if y < no then remQ (nI x) (q y) else q y) s R → Fr h.1 f b (b + 69) → Q (.inl (some (.int (nI (cntB (fun i => hasQ (nI x) (q i)) no))))) (f, h.2)) : ∀ (m : Nat) (i : Nat) (f : Nat → Option XE) (R2 : Nat → Nat → Nat), no - i < m → (i ≤ no) → (BdP f b np no nn sc ho TS TH tr (xw pl x (xacc (pl x).1 (fun i => rfnd (nI x) (q i)) i, (pl x).2)) (fun y => if y < i then remQ (nI x) (q y) else q y) s R2) → (Fr h.1 f b (b + 69)) → xP S (d + 1) 28 4 [(0, .ref b), (1, .int (nI x)), (2, .int (nI (cntB (fun i => hasQ (nI x) (q i)) i))), (3, .int (nI i))] [] (f, h.2) Q := by
  intro m
  induction m with
  | zero => intro i f R2 hm; exact absurd hm (Nat.not_lt_zero _)
  | succ m ih =>
    intro i f R2 hm hi hB1 hF
    obtain ⟨b1, ⟨b2n, b2o, b2s⟩, b3, b4, b5, b6, b7, b8, b9, b10⟩ := id hB1
    have hcl := cntB_le (fun i => hasQ (nI x) (q i)) i
    have hq0 : (if i < i then remQ (nI x) (q i) else q i) = q i := if_neg (Nat.lt_irrefl _)
    have p1 : f (b + 7 + 4 * x) = some (.inr (6, [.ref (b + 7 + 4 * x + 1), .int (xacc (pl x).1 (fun i => rfnd (nI x) (q i)) i), .int (pl x).2.1, .int (bI (pl x).2.2.1)])) := by
      have := (b7 x hx).1
      rw [xw_s] at this
      exact this
    have p2 : BAt f (b + 7 + 4 * x + 1) (pl x).2.2.2.1 (pl x).2.2.2.2 := by
      have := (b7 x hx).2
      rw [xw_s] at this
      exact this
    refine xs_f 5 r_28_4 rfl ?_
    refine xs_f 6 r_28_5 rfl ?_
    refine xs_get 9 r_28_6 rfl rfl (by first | assumption | exact xup_s | exact p1 | (refine (xup_n (by omega)).trans ?_; first | assumption | exact xup_s | exact p1) | (refine (xup_n (by omega)).trans ((xup_n (by omega)).trans ?_); first | assumption | exact xup_s | exact p1) | (refine (xup_n (by omega)).trans ((xup_n (by omega)).trans ((xup_n (by omega)).trans ?_)); first | assumption | exact xup_s | exact p1)) (by rfl) ?_
    refine xs_if 79 12 r_28_9 rfl (fun hc1 => ?_) (fun hc1 => ?_)
    · have hc1 := (nI_leN rfl rfl (by omega) (by omega)).mp hc1
      have e : i = no := by omega
      subst e
      refine xs_f 80 r_28_79 rfl ?_
      refine xs_get 83 r_28_80 rfl rfl (by first | assumption | exact xup_s | exact p1 | (refine (xup_n (by omega)).trans ?_; first | assumption | exact xup_s | exact p1) | (refine (xup_n (by omega)).trans ((xup_n (by omega)).trans ?_); first | assumption | exact xup_s | exact p1) | (refine (xup_n (by omega)).trans ((xup_n (by omega)).trans ((xup_n (by omega)).trans ?_)); first | assumption | exact xup_s | exact p1)) (by rfl) ?_
      refine xs_f 84 r_28_83 rfl ?_
      refine xs_aldR 85 r_28_84 (fun _ _ => rfl) rfl rfl rfl (j := x) rfl (by first | assumption | (refine RA.fr ?_ (xup_n (by omega)); first | assumption) | (refine RA.fr (RA.fr ?_ (xup_n (by omega))) (xup_n (by omega)); first | assumption) | (refine RA.fr (RA.fr (RA.fr ?_ (xup_n (by omega))) (xup_n (by omega))) (xup_n (by omega)); first | assumption)) (by omega) ?_
      refine xs_f 86 r_28_85 rfl ?_
      refine xs_putC 89 r_28_86 rfl p1 (by rfl) (by rfl) (fun f4 x4 y4 => ?_)
      refine xs_f 90 r_28_89 rfl ?_
      refine xs_ret r_28_90 rfl ?_
      have g3 := hB1.ply (i := x) hx (p := (xacc (pl x).1 (fun i => rfnd (nI x) (q i)) i, ((pl x).2.1, (true, (pl x).2.2.2)))) ⟨x4, p2.fr (fun c z1 z2 => y4 c (by omega))⟩ (y4.wd (by omega) (by omega))
      rw [xw_xw] at g3
      exact k f4 _ g3 (hF.tr (y4.wd (by omega) (by omega)))
    · have hc1 := mt (nI_leN rfl rfl (by omega) (by omega)).mpr hc1
      have z8 := b8 i (by omega)
      have u := b10 i (by omega)
      dsimp only at u
      rw [hq0] at u
      obtain ⟨u1, u2, u3, u5, u6, u7⟩ := id u
      refine xs_f 13 r_28_12 rfl ?_
      refine xs_get 16 r_28_13 rfl rfl (by first | assumption | exact xup_s | exact p1 | (refine (xup_n (by omega)).trans ?_; first | assumption | exact xup_s | exact p1) | (refine (xup_n (by omega)).trans ((xup_n (by omega)).trans ?_); first | assumption | exact xup_s | exact p1) | (refine (xup_n (by omega)).trans ((xup_n (by omega)).trans ((xup_n (by omega)).trans ?_)); first | assumption | exact xup_s | exact p1)) (by rfl) ?_
      refine xs_f 17 r_28_16 rfl ?_
      refine xs_aldR 18 r_28_17 (fun _ _ => rfl) rfl rfl rfl (j := i) rfl (by first | assumption | (refine RA.fr ?_ (xup_n (by omega)); first | assumption) | (refine RA.fr (RA.fr ?_ (xup_n (by omega))) (xup_n (by omega)); first | assumption) | (refine RA.fr (RA.fr (RA.fr ?_ (xup_n (by omega))) (xup_n (by omega))) (xup_n (by omega)); first | assumption)) (by omega) ?_
      refine xs_f 19 r_28_18 rfl ?_
      refine xs_call (lv2 := [(0, _), (1, _)]) r_28_19 rfl rfl (by decide) (xcan_0 rfl rfl u1 (by rfl)) rfl (c_78r (h := (f, h.2)) u (by omega) (fun hr => ?_) (fun hr => ?_))
      · refine xK_v rfl ?_
        refine xs_f 24 (lv2 := [(4, _), (0, _), (1, _), (2, _), (3, _)]) r_28_22 rfl ?_
        refine xs_f 26 r_28_24 rfl ?_
        refine xs_f 27 r_28_26 rfl ?_
        refine xs_if 73 30 r_28_27 rfl (fun hrr => ?_) (fun hrr => ?_)
        · exact absurd hrr (nI_m1 rfl (by omega))
        · refine xs_f 31 r_28_30 rfl ?_
          refine xs_get 34 r_28_31 rfl rfl (by first | assumption | exact xup_s | exact p1 | (refine (xup_n (by omega)).trans ?_; first | assumption | exact xup_s | exact p1) | (refine (xup_n (by omega)).trans ((xup_n (by omega)).trans ?_); first | assumption | exact xup_s | exact p1) | (refine (xup_n (by omega)).trans ((xup_n (by omega)).trans ((xup_n (by omega)).trans ?_)); first | assumption | exact xup_s | exact p1)) (by rfl) ?_
          refine xs_f 35 r_28_34 rfl ?_
          refine xs_aldR 36 r_28_35 (fun _ _ => rfl) rfl rfl rfl (j := x) rfl (by first | assumption | (refine RA.fr ?_ (xup_n (by omega)); first | assumption) | (refine RA.fr (RA.fr ?_ (xup_n (by omega))) (xup_n (by omega)); first | assumption) | (refine RA.fr (RA.fr (RA.fr ?_ (xup_n (by omega))) (xup_n (by omega))) (xup_n (by omega)); first | assumption)) (by omega) ?_
          refine xs_f 37 r_28_36 rfl ?_
          refine xs_get 40 r_28_37 rfl rfl (by first | assumption | exact xup_s | exact p1 | (refine (xup_n (by omega)).trans ?_; first | assumption | exact xup_s | exact p1) | (refine (xup_n (by omega)).trans ((xup_n (by omega)).trans ?_); first | assumption | exact xup_s | exact p1) | (refine (xup_n (by omega)).trans ((xup_n (by omega)).trans ((xup_n (by omega)).trans ?_)); first | assumption | exact xup_s | exact p1)) (by rfl) ?_
          refine xs_f 41 r_28_40 rfl ?_
          refine xs_get 44 r_28_41 rfl rfl (by first | assumption | exact xup_s | exact p1 | (refine (xup_n (by omega)).trans ?_; first | assumption | exact xup_s | exact p1) | (refine (xup_n (by omega)).trans ((xup_n (by omega)).trans ?_); first | assumption | exact xup_s | exact p1) | (refine (xup_n (by omega)).trans ((xup_n (by omega)).trans ((xup_n (by omega)).trans ?_)); first | assumption | exact xup_s | exact p1)) (by rfl) ?_
          refine xs_f 45 r_28_44 rfl ?_
          refine xs_aldR 46 r_28_45 (fun _ _ => rfl) rfl rfl rfl (j := i) rfl (by first | assumption | (refine RA.fr ?_ (xup_n (by omega)); first | assumption) | (refine RA.fr (RA.fr ?_ (xup_n (by omega))) (xup_n (by omega)); first | assumption) | (refine RA.fr (RA.fr (RA.fr ?_ (xup_n (by omega))) (xup_n (by omega))) (xup_n (by omega)); first | assumption)) (by omega) ?_
          refine xs_get 49 r_28_46 rfl rfl u1 (by rfl) ?_
          refine xs_f 51 r_28_49 rfl ?_
          refine xs_aldR 52 r_28_51 (fun _ _ => rfl) rfl rfl rfl (j := (rnk (q i).2.2.2 (q i).2.2.1 (nI x))) rfl u3 (by omega) ?_
          refine xs_get 55 r_28_52 rfl rfl (u7 _ (by omega)) (by rfl) ?_
          refine xs_f 56 r_28_55 rfl ?_
          refine xs_putC 59 r_28_56 rfl (by first | assumption | exact xup_s | exact p1 | (refine (xup_n (by omega)).trans ?_; first | assumption | exact xup_s | exact p1) | (refine (xup_n (by omega)).trans ((xup_n (by omega)).trans ?_); first | assumption | exact xup_s | exact p1) | (refine (xup_n (by omega)).trans ((xup_n (by omega)).trans ((xup_n (by omega)).trans ?_)); first | assumption | exact xup_s | exact p1)) (by rfl) (by rfl) (fun f2 x2 y2 => ?_)
          refine xs_f 60 r_28_59 rfl ?_
          refine xs_get 63 r_28_60 rfl rfl ((y2 b (by omega)).trans b1) (by rfl) ?_
          refine xs_f 64 r_28_63 rfl ?_
          refine xs_aldR 65 r_28_64 (fun _ _ => rfl) rfl rfl rfl (j := i) rfl (b4.fr (y2 _ (by omega))) (by omega) ?_
          refine xs_f 67 r_28_65 rfl ?_
          have hB2 := hB1.ply (i := x) hx (p := (xacc (pl x).1 (fun i => rfnd (nI x) (q i)) (i + 1), (pl x).2)) ⟨x2.trans (by rw [show xacc (pl x).1 (fun i => rfnd (nI x) (q i)) (i + 1) = xacc (pl x).1 (fun i => rfnd (nI x) (q i)) i + ((q i).2.2.2 (rnk (q i).2.2.2 (q i).2.2.1 (nI x))).2.2.2.2 from congrArg (fun z => xacc (pl x).1 (fun i => rfnd (nI x) (q i)) i + z) (if_pos hr)]; rfl), p2.fr (fun c z1 z2 => y2 c (by omega))⟩ (y2.wd (by omega) (by omega))
          refine xs_call (lv2 := [(0, _), (1, _)]) r_28_67 rfl rfl (by decide) (xcan_0 rfl rfl ((y2 _ (by omega)).trans u1) (by rfl)) rfl (c_80 (h := (f2, h.2)) (u.fr (fun c z1 z2 => y2 c (by omega))) (by omega) hr (fun f3 x3 y3 => ?_))
          refine xK_0 rfl ?_
          have g2 : BdP f3 b np no nn sc ho TS TH tr (xw pl x (xacc (pl x).1 (fun i => rfnd (nI x) (q i)) (i + 1), (pl x).2)) (fun y => if y < (i + 1) then remQ (nI x) (q y) else q y) s (xw R2 i (rot (R2 i) (rnk (q i).2.2.2 (q i).2.2.1 (nI x)) ((q i).2.2.1 - 1))) := by
            have e : xw (xw pl x (xacc (pl x).1 (fun i => rfnd (nI x) (q i)) i, (pl x).2)) x (xacc (pl x).1 (fun i => rfnd (nI x) (q i)) (i + 1), (pl x).2) = (xw pl x (xacc (pl x).1 (fun i => rfnd (nI x) (q i)) (i + 1), (pl x).2)) := xw_xw
            rw [← e, xlt_s, show remQ (nI x) (q i) = ((q i).1, ((q i).2.1, ((q i).2.2.1 - 1, rot (q i).2.2.2 (rnk (q i).2.2.2 (q i).2.2.1 (nI x)) ((q i).2.2.1 - 1)))) from if_pos hr]
            exact (hB2.que (i := i) (by omega) x3 (y3.wd (by omega) (by omega)))
          refine xs_f 73 (lv2 := [(2, _), (4, _), (0, _), (1, _), (3, _)]) r_28_70 rfl ?_
          refine xs_f 76 (lv2 := [(3, _), (2, _), (4, _), (0, _), (1, _)]) r_28_73 rfl ?_
          refine xs_f 4 r_28_76 rfl ?_
          first
            | exact xP_lv [(0, .ref b), (1, .int (nI x)), (2, .int (nI (cntB (fun i => hasQ (nI x) (q i)) (i + 1)))), (3, .int (nI (i + 1)))] rfl ⟨rfl, rfl, (by rw [show cntB (fun i => hasQ (nI x) (q i)) (i + 1) = cntB (fun i => hasQ (nI x) (q i)) i + 1 from by rw [cntB_s, show hasQ (nI x) (q i) = true from decide_eq_true hr]; rfl, nI_succ]; rfl), (by rw [nI_succ]; rfl), trivial⟩ (ih (i + 1) f3 _ (by omega) (by omega) g2 ((hF.tr (y2.wd (by omega) (by omega))).tr (y3.wd (by omega) (by omega))))
            | exact xP_lv [(0, .ref b), (1, .int (nI x)), (2, .int (nI (cntB (fun i => hasQ (nI x) (q i)) (i + 1)))), (3, .int (nI (i + 1)))] rfl ⟨rfl, rfl, (by rw [show cntB (fun i => hasQ (nI x) (q i)) (i + 1) = cntB (fun i => hasQ (nI x) (q i)) i from by rw [cntB_s, show hasQ (nI x) (q i) = false from decide_eq_false (by omega)]; rfl]; rfl), (by rw [nI_succ]; rfl), trivial⟩ (ih (i + 1) f R2 (by omega) (by omega) (by
                rw [xlt_s, show remQ (nI x) (q i) = q i from if_neg (by omega), show xacc (pl x).1 (fun i => rfnd (nI x) (q i)) (i + 1) = xacc (pl x).1 (fun i => rfnd (nI x) (q i)) i from (congrArg (fun z => xacc (pl x).1 (fun i => rfnd (nI x) (q i)) i + z) (if_neg (by omega))).trans (Int32.add_zero _)]
                have e : xw (fun y => if y < i then remQ (nI x) (q y) else q y) i (q i) = (fun y => if y < i then remQ (nI x) (q y) else q y) := funext fun y => by
                  unfold xw
                  by_cases z : y = i
                  · rw [if_pos z, z, if_neg (Nat.lt_irrefl _)]
                  · rw [if_neg z]
                rw [e]
                exact hB1) hF)
      · refine xK_v rfl ?_
        refine xs_f 24 (lv2 := [(4, _), (0, _), (1, _), (2, _), (3, _)]) r_28_22 rfl ?_
        refine xs_f 26 r_28_24 rfl ?_
        refine xs_f 27 r_28_26 rfl ?_
        refine xs_f 73 r_28_27 rfl ?_
        refine xs_f 76 (lv2 := [(3, _), (4, _), (0, _), (1, _), (2, _)]) r_28_73 rfl ?_
        refine xs_f 4 r_28_76 rfl ?_
        first
          | exact xP_lv [(0, .ref b), (1, .int (nI x)), (2, .int (nI (cntB (fun i => hasQ (nI x) (q i)) (i + 1)))), (3, .int (nI (i + 1)))] rfl ⟨rfl, rfl, (by rw [show cntB (fun i => hasQ (nI x) (q i)) (i + 1) = cntB (fun i => hasQ (nI x) (q i)) i + 1 from by rw [cntB_s, show hasQ (nI x) (q i) = true from decide_eq_true hr]; rfl, nI_succ]; rfl), (by rw [nI_succ]; rfl), trivial⟩ (ih (i + 1) f3 _ (by omega) (by omega) g2 ((hF.tr (y2.wd (by omega) (by omega))).tr (y3.wd (by omega) (by omega))))
          | exact xP_lv [(0, .ref b), (1, .int (nI x)), (2, .int (nI (cntB (fun i => hasQ (nI x) (q i)) (i + 1)))), (3, .int (nI (i + 1)))] rfl ⟨rfl, rfl, (by rw [show cntB (fun i => hasQ (nI x) (q i)) (i + 1) = cntB (fun i => hasQ (nI x) (q i)) i from by rw [cntB_s, show hasQ (nI x) (q i) = false from decide_eq_false (by omega)]; rfl]; rfl), (by rw [nI_succ]; rfl), trivial⟩ (ih (i + 1) f R2 (by omega) (by omega) (by
              rw [xlt_s, show remQ (nI x) (q i) = q i from if_neg (by omega), show xacc (pl x).1 (fun i => rfnd (nI x) (q i)) (i + 1) = xacc (pl x).1 (fun i => rfnd (nI x) (q i)) i from (congrArg (fun z => xacc (pl x).1 (fun i => rfnd (nI x) (q i)) i + z) (if_neg (by omega))).trans (Int32.add_zero _)]
              have e : xw (fun y => if y < i then remQ (nI x) (q y) else q y) i (q i) = (fun y => if y < i then remQ (nI x) (q y) else q y) := funext fun y => by
                unfold xw
                by_cases z : y = i
                · rw [if_pos z, z, if_neg (Nat.lt_irrefl _)]
                · rw [if_neg z]
              rw [e]
              exact hB1) hF)

theorem c_28 {S : XSc} {d : Nat} {h : XH} {Q : XO → XH → Prop} {b np no : Nat} {nn : Int32} {sc : Nat} {ho : Int32} {TS TH tr : Nat → Int32} {pl : Nat → XPl} {q : Nat → XQu} {s : Nat → Nat} {R : Nat → Nat → Nat} (hB : BdP h.1 b np no nn sc ho TS TH tr pl q s R) (h32 : 32 ≤ b)  {x : Nat} (hx : x < 5) (k : ∀ f R, BdP f b np no nn sc ho TS TH tr (xw pl x (xacc (pl x).1 (fun i => rfnd (nI x) (q i)) no, ((pl x).2.1, (true, (pl x).2.2.2)))) (fun y => if y < no then remQ (nI x) (q y) else q y) s R → Fr h.1 f b (b + 69) → Q (.inl (some (.int (nI (cntB (fun i => hasQ (nI x) (q i)) no))))) (f, h.2)) : xP S (d + 1) 28 0 [(0, .ref b), (1, .int (nI x))] [] h Q := by
  obtain ⟨b1, ⟨b2n, b2o, b2s⟩, b3, b4, b5, b6, b7, b8, b9, b10⟩ := id hB
  refine xs_f 1 r_28_0 rfl ?_
  refine xs_f 2 (lv2 := [(2, _), (0, _), (1, _)]) r_28_1 rfl ?_
  refine xs_f 3 r_28_2 rfl ?_
  refine xs_f 4 (lv2 := [(3, _), (2, _), (0, _), (1, _)]) r_28_3 rfl ?_
  exact xP_lv [(0, .ref b), (1, .int (nI x)), (2, .int (nI (cntB (fun i => hasQ (nI x) (q i)) 0))), (3, .int (nI 0))] rfl ⟨rfl, rfl, rfl, rfl, trivial⟩ (l_28 hB h32 hx k (no + 1) 0 h.1 R (by omega) (by omega) (by
    have e : xw pl x (xacc (pl x).1 (fun i => rfnd (nI x) (q i)) 0, (pl x).2) = pl := funext fun y => by
      unfold xw
      by_cases z : y = x
      · rw [if_pos z, z]; rfl
      · rw [if_neg z]
    rw [e]
    exact hB) Fr.rf)

def eqQ (x y : XQu) : Prop := x.1 = y.1 ∧ x.2.1 = y.2.1 ∧ x.2.2.1 = y.2.2.1 ∧ ∀ r, r < y.2.2.1 → x.2.2.2 r = y.2.2.2 r
theorem l_11b {S : XSc} {d : Nat} {h : XH} {Q : XO → XH → Prop} {b : Nat} {s : Nat → Nat} {c np2 no2 : Nat} {nn2 : Int32} {sc2 : Nat} {ho2 : Int32} {TS2 TH2 tr2 : Nat → Int32} {pl2 : Nat → XPl} {q2 : Nat → XQu} {s2 : Nat → Nat} {R2 : Nat → Nat → Nat} (h32 : 32 ≤ b) (h33 : 32 ≤ c) (hbc : b + 69 ≤ c ∨ c + 69 ≤ b) (hC : BdP h.1 c np2 no2 nn2 sc2 ho2 TS2 TH2 tr2 pl2 q2 s2 R2) (k : ∀ f pl3 q3 R3, BdP f b np2 no2 nn2 sc2 ho2 TS2 TH2 tr2 pl3 q3 s R3 → (∀ i, i < np2 → pl3 i = pl2 i) → (∀ i, i < no2 → eqQ (q3 i) (q2 i)) → Fr h.1 f b (b + 69) → Q (.inl none) (f, h.2)) : ∀ (m : Nat) (i : Nat) (f : Nat → Option XE) (pl3 : Nat → XPl) (q3 : Nat → XQu) (R3 : Nat → Nat → Nat), no2 - i < m → (i ≤ no2) → (BdP f b np2 no2 nn2 sc2 ho2 TS2 TH2 tr2 pl3 q3 s R3) → (∀ j, j < np2 → pl3 j = pl2 j) → (∀ j, j < i → eqQ (q3 j) (q2 j)) → (Fr h.1 f b (b + 69)) → xP S (d + 3) 11 102 [(0, .ref b), (1, .ref c), (2, .int (nI i))] [] (f, h.2) Q := by
  intro m
  induction m with
  | zero => intro i f pl3 q3 R3 hm; exact absurd hm (Nat.not_lt_zero _)
  | succ m ih =>
    intro i f pl3 q3 R3 hm hi hB1 hp hq hF
    obtain ⟨c1, ⟨c2n, c2o, c2s⟩, c3, c4, c5, c6, c7, c8, c9, c10⟩ := hC.fr (g := f) (fun x z1 z2 => hF x (by omega))
    obtain ⟨b1, -, b3, b4, b5, b6, b7, b8, b9, b10⟩ := id hB1
    refine xs_f 103 r_11_102 rfl ?_
    refine xs_f 104 r_11_103 rfl ?_
    refine xs_get 107 r_11_104 rfl rfl (by first | assumption | exact xup_s | exact b1 | exact c1 | exact (b10 _ (by omega)).1 | (refine (xup_n (by omega)).trans ?_; first | assumption | exact xup_s | exact b1 | exact c1 | exact (b10 _ (by omega)).1) | (refine (xup_n (by omega)).trans ((xup_n (by omega)).trans ?_); first | assumption | exact xup_s | exact b1 | exact c1 | exact (b10 _ (by omega)).1) | (refine (xup_n (by omega)).trans ((xup_n (by omega)).trans ((xup_n (by omega)).trans ?_)); first | assumption | exact xup_s | exact b1 | exact c1 | exact (b10 _ (by omega)).1)) (by rfl) ?_
    refine xs_if 131 110 r_11_107 rfl (fun hc1 => ?_) (fun hc1 => ?_)
    · have hc1 := (nI_leN rfl rfl (by omega) (by omega)).mp hc1
      refine xs_ret r_11_131 rfl ?_
      exact k f pl3 q3 R3 hB1 hp (fun j hj => hq j (by omega)) hF
    · have hc1 := mt (nI_leN rfl rfl (by omega) (by omega)).mpr hc1
      refine xs_f 111 r_11_110 rfl ?_
      refine xs_get 114 r_11_111 rfl rfl (by first | assumption | exact xup_s | exact b1 | exact c1 | exact (b10 _ (by omega)).1 | (refine (xup_n (by omega)).trans ?_; first | assumption | exact xup_s | exact b1 | exact c1 | exact (b10 _ (by omega)).1) | (refine (xup_n (by omega)).trans ((xup_n (by omega)).trans ?_); first | assumption | exact xup_s | exact b1 | exact c1 | exact (b10 _ (by omega)).1) | (refine (xup_n (by omega)).trans ((xup_n (by omega)).trans ((xup_n (by omega)).trans ?_)); first | assumption | exact xup_s | exact b1 | exact c1 | exact (b10 _ (by omega)).1)) (by rfl) ?_
      refine xs_f 115 r_11_114 rfl ?_
      refine xs_aldR 116 r_11_115 (fun _ _ => rfl) rfl rfl rfl (j := i) rfl (by first | assumption | exact b4 | exact c4 | (refine RA.fr ?_ (xup_n (by omega)); first | assumption | exact b4 | exact c4) | (refine RA.fr (RA.fr ?_ (xup_n (by omega))) (xup_n (by omega)); first | assumption | exact b4 | exact c4) | (refine RA.fr (RA.fr (RA.fr ?_ (xup_n (by omega))) (xup_n (by omega))) (xup_n (by omega)); first | assumption | exact b4 | exact c4)) (by omega) ?_
      refine xs_f 117 r_11_116 rfl ?_
      refine xs_get 120 r_11_117 rfl rfl (by first | assumption | exact xup_s | exact b1 | exact c1 | exact (b10 _ (by omega)).1 | (refine (xup_n (by omega)).trans ?_; first | assumption | exact xup_s | exact b1 | exact c1 | exact (b10 _ (by omega)).1) | (refine (xup_n (by omega)).trans ((xup_n (by omega)).trans ?_); first | assumption | exact xup_s | exact b1 | exact c1 | exact (b10 _ (by omega)).1) | (refine (xup_n (by omega)).trans ((xup_n (by omega)).trans ((xup_n (by omega)).trans ?_)); first | assumption | exact xup_s | exact b1 | exact c1 | exact (b10 _ (by omega)).1)) (by rfl) ?_
      refine xs_f 121 r_11_120 rfl ?_
      refine xs_aldR 122 r_11_121 (fun _ _ => rfl) rfl rfl rfl (j := i) rfl (by first | assumption | exact b4 | exact c4 | (refine RA.fr ?_ (xup_n (by omega)); first | assumption | exact b4 | exact c4) | (refine RA.fr (RA.fr ?_ (xup_n (by omega))) (xup_n (by omega)); first | assumption | exact b4 | exact c4) | (refine RA.fr (RA.fr (RA.fr ?_ (xup_n (by omega))) (xup_n (by omega))) (xup_n (by omega)); first | assumption | exact b4 | exact c4)) (by omega) ?_
      have z8 := b8 i (by omega)
      have z9 := c8 i (by omega)
      refine xs_call (lv2 := [(0, _), (1, _)]) r_11_122 rfl rfl (by decide) (xcan_0 rfl rfl (by first | assumption | exact xup_s | exact b1 | exact c1 | exact (b10 _ (by omega)).1 | (refine (xup_n (by omega)).trans ?_; first | assumption | exact xup_s | exact b1 | exact c1 | exact (b10 _ (by omega)).1) | (refine (xup_n (by omega)).trans ((xup_n (by omega)).trans ?_); first | assumption | exact xup_s | exact b1 | exact c1 | exact (b10 _ (by omega)).1) | (refine (xup_n (by omega)).trans ((xup_n (by omega)).trans ((xup_n (by omega)).trans ?_)); first | assumption | exact xup_s | exact b1 | exact c1 | exact (b10 _ (by omega)).1)) (by rfl)) rfl (c_77 (h := (f, h.2)) (b10 i (by omega)) (c10 i (by omega)) (by omega) (by omega) (by omega) (fun f2 E3 x2 e2 y2 => ?_))
      refine xK_0 rfl ?_
      refine xs_f 128 (lv2 := [(2, _), (0, _), (1, _)]) r_11_125 rfl ?_
      refine xs_f 102 r_11_128 rfl ?_
      exact xP_lv [(0, .ref b), (1, .ref c), (2, .int (nI (i + 1)))] rfl ⟨rfl, rfl, (by rw [nI_succ]; rfl), trivial⟩ (ih (i + 1) f2 pl3 _ _ (by omega) (by omega) (hB1.que (i := i) (by omega) x2 (y2.wd (by omega) (by omega))) hp (fun j hj => by
        by_cases z : j = i
        · rw [z, xw_s]; exact ⟨rfl, rfl, rfl, e2⟩
        · rw [xw_n z]; exact hq j (by omega)) (hF.tr (y2.wd (by omega) (by omega))))

theorem l_11a {S : XSc} {d : Nat} {h : XH} {Q : XO → XH → Prop} {b : Nat} {s : Nat → Nat} {c np2 no2 : Nat} {nn2 : Int32} {sc2 : Nat} {ho2 : Int32} {TS2 TH2 tr2 : Nat → Int32} {pl2 : Nat → XPl} {q2 : Nat → XQu} {s2 : Nat → Nat} {R2 : Nat → Nat → Nat} (h32 : 32 ≤ b) (h33 : 32 ≤ c) (hbc : b + 69 ≤ c ∨ c + 69 ≤ b) (hC : BdP h.1 c np2 no2 nn2 sc2 ho2 TS2 TH2 tr2 pl2 q2 s2 R2) (k : ∀ f pl3 q3 R3, BdP f b np2 no2 nn2 sc2 ho2 TS2 TH2 tr2 pl3 q3 s R3 → (∀ i, i < np2 → pl3 i = pl2 i) → (∀ i, i < no2 → eqQ (q3 i) (q2 i)) → Fr h.1 f b (b + 69) → Q (.inl none) (f, h.2)) : ∀ (m : Nat) (i : Nat) (f : Nat → Option XE) (pl3 : Nat → XPl) (q : Nat → XQu) (R : Nat → Nat → Nat), np2 - i < m → (i ≤ np2) → (BdP f b np2 no2 nn2 sc2 ho2 TS2 TH2 tr2 pl3 q s R) → (∀ j, j < i → pl3 j = pl2 j) → (Fr h.1 f b (b + 69)) → xP S (d + 3) 11 71 [(0, .ref b), (1, .ref c), (2, .int (nI i))] [] (f, h.2) Q := by
  intro m
  induction m with
  | zero => intro i f pl3 q R hm; exact absurd hm (Nat.not_lt_zero _)
  | succ m ih =>
    intro i f pl3 q R hm hi hB1 hp hF
    obtain ⟨c1, ⟨c2n, c2o, c2s⟩, c3, c4, c5, c6, c7, c8, c9, c10⟩ := hC.fr (g := f) (fun x z1 z2 => hF x (by omega))
    obtain ⟨b1, -, b3, b4, b5, b6, b7, b8, b9, b10⟩ := id hB1
    refine xs_f 72 r_11_71 rfl ?_
    refine xs_f 73 r_11_72 rfl ?_
    refine xs_get 76 r_11_73 rfl rfl (by first | assumption | exact xup_s | exact b1 | exact c1 | exact (b7 _ (by omega)).1 | (refine (xup_n (by omega)).trans ?_; first | assumption | exact xup_s | exact b1 | exact c1 | exact (b7 _ (by omega)).1) | (refine (xup_n (by omega)).trans ((xup_n (by omega)).trans ?_); first | assumption | exact xup_s | exact b1 | exact c1 | exact (b7 _ (by omega)).1) | (refine (xup_n (by omega)).trans ((xup_n (by omega)).trans ((xup_n (by omega)).trans ?_)); first | assumption | exact xup_s | exact b1 | exact c1 | exact (b7 _ (by omega)).1)) (by rfl) ?_
    refine xs_if 100 79 r_11_76 rfl (fun hc1 => ?_) (fun hc1 => ?_)
    · have hc1 := (nI_leN rfl rfl (by omega) (by omega)).mp hc1
      refine xs_f 101 r_11_100 rfl ?_
      refine xs_f 102 (lv2 := [(2, _), (0, _), (1, _)]) r_11_101 rfl ?_
      exact xP_lv [(0, .ref b), (1, .ref c), (2, .int (nI 0))] rfl ⟨rfl, rfl, rfl, trivial⟩ (l_11b h32 h33 hbc hC k (no2 + 1) 0 f pl3 q R (by omega) (by omega) hB1 (fun j hj => hp j (by omega)) (fun j hj => absurd hj (Nat.not_lt_zero _)) hF)
    · have hc1 := mt (nI_leN rfl rfl (by omega) (by omega)).mpr hc1
      refine xs_f 80 r_11_79 rfl ?_
      refine xs_get 83 r_11_80 rfl rfl (by first | assumption | exact xup_s | exact b1 | exact c1 | exact (b7 _ (by omega)).1 | (refine (xup_n (by omega)).trans ?_; first | assumption | exact xup_s | exact b1 | exact c1 | exact (b7 _ (by omega)).1) | (refine (xup_n (by omega)).trans ((xup_n (by omega)).trans ?_); first | assumption | exact xup_s | exact b1 | exact c1 | exact (b7 _ (by omega)).1) | (refine (xup_n (by omega)).trans ((xup_n (by omega)).trans ((xup_n (by omega)).trans ?_)); first | assumption | exact xup_s | exact b1 | exact c1 | exact (b7 _ (by omega)).1)) (by rfl) ?_
      refine xs_f 84 r_11_83 rfl ?_
      refine xs_aldR 85 r_11_84 (fun _ _ => rfl) rfl rfl rfl (j := i) rfl (by first | assumption | exact b3 | exact c3 | (refine RA.fr ?_ (xup_n (by omega)); first | assumption | exact b3 | exact c3) | (refine RA.fr (RA.fr ?_ (xup_n (by omega))) (xup_n (by omega)); first | assumption | exact b3 | exact c3) | (refine RA.fr (RA.fr (RA.fr ?_ (xup_n (by omega))) (xup_n (by omega))) (xup_n (by omega)); first | assumption | exact b3 | exact c3)) (by omega) ?_
      refine xs_f 86 r_11_85 rfl ?_
      refine xs_get 89 r_11_86 rfl rfl (by first | assumption | exact xup_s | exact b1 | exact c1 | exact (b7 _ (by omega)).1 | (refine (xup_n (by omega)).trans ?_; first | assumption | exact xup_s | exact b1 | exact c1 | exact (b7 _ (by omega)).1) | (refine (xup_n (by omega)).trans ((xup_n (by omega)).trans ?_); first | assumption | exact xup_s | exact b1 | exact c1 | exact (b7 _ (by omega)).1) | (refine (xup_n (by omega)).trans ((xup_n (by omega)).trans ((xup_n (by omega)).trans ?_)); first | assumption | exact xup_s | exact b1 | exact c1 | exact (b7 _ (by omega)).1)) (by rfl) ?_
      refine xs_f 90 r_11_89 rfl ?_
      refine xs_aldR 91 r_11_90 (fun _ _ => rfl) rfl rfl rfl (j := i) rfl (by first | assumption | exact b3 | exact c3 | (refine RA.fr ?_ (xup_n (by omega)); first | assumption | exact b3 | exact c3) | (refine RA.fr (RA.fr ?_ (xup_n (by omega))) (xup_n (by omega)); first | assumption | exact b3 | exact c3) | (refine RA.fr (RA.fr (RA.fr ?_ (xup_n (by omega))) (xup_n (by omega))) (xup_n (by omega)); first | assumption | exact b3 | exact c3)) (by omega) ?_
      refine xs_call (lv2 := [(0, _), (1, _)]) r_11_91 rfl rfl (by decide) (xcan_0 rfl rfl (by first | assumption | exact xup_s | exact b1 | exact c1 | exact (b7 _ (by omega)).1 | (refine (xup_n (by omega)).trans ?_; first | assumption | exact xup_s | exact b1 | exact c1 | exact (b7 _ (by omega)).1) | (refine (xup_n (by omega)).trans ((xup_n (by omega)).trans ?_); first | assumption | exact xup_s | exact b1 | exact c1 | exact (b7 _ (by omega)).1) | (refine (xup_n (by omega)).trans ((xup_n (by omega)).trans ((xup_n (by omega)).trans ?_)); first | assumption | exact xup_s | exact b1 | exact c1 | exact (b7 _ (by omega)).1)) (by rfl)) rfl (c_73 (h := (f, h.2)) (b7 i (by omega)) (c7 i (by omega)) (by omega) (by omega) (by omega) (fun f2 x2 y2 => ?_))
      refine xK_0 rfl ?_
      refine xs_f 97 (lv2 := [(2, _), (0, _), (1, _)]) r_11_94 rfl ?_
      refine xs_f 71 r_11_97 rfl ?_
      exact xP_lv [(0, .ref b), (1, .ref c), (2, .int (nI (i + 1)))] rfl ⟨rfl, rfl, (by rw [nI_succ]; rfl), trivial⟩ (ih (i + 1) f2 _ q R (by omega) (by omega) (hB1.ply (i := i) (by omega) x2 (y2.wd (by omega) (by omega))) (fun j hj => by
        by_cases z : j = i
        · rw [z, xw_s]
        · rw [xw_n z]; exact hp j (by omega)) (hF.tr (y2.wd (by omega) (by omega))))

theorem c_11 {S : XSc} {d : Nat} {h : XH} {Q : XO → XH → Prop} {b np no : Nat} {nn : Int32} {sc : Nat} {ho : Int32} {TS TH tr : Nat → Int32} {pl : Nat → XPl} {q : Nat → XQu} {s : Nat → Nat} {R : Nat → Nat → Nat} {c np2 no2 : Nat} {nn2 : Int32} {sc2 : Nat} {ho2 : Int32} {TS2 TH2 tr2 : Nat → Int32} {pl2 : Nat → XPl} {q2 : Nat → XQu} {s2 : Nat → Nat} {R2 : Nat → Nat → Nat} (hB : BdP h.1 b np no nn sc ho TS TH tr pl q s R) (hC : BdP h.1 c np2 no2 nn2 sc2 ho2 TS2 TH2 tr2 pl2 q2 s2 R2) (h32 : 32 ≤ b) (h33 : 32 ≤ c) (hbc : b + 69 ≤ c ∨ c + 69 ≤ b) (k : ∀ f pl3 q3 R3, BdP f b np2 no2 nn2 sc2 ho2 TS2 TH2 tr2 pl3 q3 s R3 → (∀ i, i < np2 → pl3 i = pl2 i) → (∀ i, i < no2 → eqQ (q3 i) (q2 i)) → Fr h.1 f b (b + 69) → Q (.inl none) (f, h.2)) : xP S (d + 3) 11 0 [(0, .ref b), (1, .ref c)] [] h Q := by
  obtain ⟨b1, ⟨b2n, b2o, b2s⟩, b3, b4, b5, b6, b7, b8, b9, b10⟩ := id hB
  obtain ⟨c1, ⟨c2n, c2o, c2s⟩, c3, c4, c5, c6, c7, c8, c9, c10⟩ := id hC
  refine xs_f 1 r_11_0 rfl ?_
  refine xs_f 2 r_11_1 rfl ?_
  refine xs_get 5 r_11_2 rfl rfl (by first | assumption | exact xup_s | exact c1 | exact ((y1 _ (by omega)).trans c1) | exact ((y2 _ (by omega)).trans ((y1 _ (by omega)).trans c1)) | exact ((y3 _ (by omega)).trans ((y2 _ (by omega)).trans ((y1 _ (by omega)).trans c1))) | exact ((y4 _ (by omega)).trans ((y3 _ (by omega)).trans ((y2 _ (by omega)).trans ((y1 _ (by omega)).trans c1)))) | (refine (xup_n (by omega)).trans ?_; first | assumption | exact xup_s | exact c1 | exact ((y1 _ (by omega)).trans c1) | exact ((y2 _ (by omega)).trans ((y1 _ (by omega)).trans c1)) | exact ((y3 _ (by omega)).trans ((y2 _ (by omega)).trans ((y1 _ (by omega)).trans c1))) | exact ((y4 _ (by omega)).trans ((y3 _ (by omega)).trans ((y2 _ (by omega)).trans ((y1 _ (by omega)).trans c1))))) | (refine (xup_n (by omega)).trans ((xup_n (by omega)).trans ?_); first | assumption | exact xup_s | exact c1 | exact ((y1 _ (by omega)).trans c1) | exact ((y2 _ (by omega)).trans ((y1 _ (by omega)).trans c1)) | exact ((y3 _ (by omega)).trans ((y2 _ (by omega)).trans ((y1 _ (by omega)).trans c1))) | exact ((y4 _ (by omega)).trans ((y3 _ (by omega)).trans ((y2 _ (by omega)).trans ((y1 _ (by omega)).trans c1))))) | (refine (xup_n (by omega)).trans ((xup_n (by omega)).trans ((xup_n (by omega)).trans ?_)); first | assumption | exact xup_s | exact c1 | exact ((y1 _ (by omega)).trans c1) | exact ((y2 _ (by omega)).trans ((y1 _ (by omega)).trans c1)) | exact ((y3 _ (by omega)).trans ((y2 _ (by omega)).trans ((y1 _ (by omega)).trans c1))) | exact ((y4 _ (by omega)).trans ((y3 _ (by omega)).trans ((y2 _ (by omega)).trans ((y1 _ (by omega)).trans c1)))))) (by rfl) ?_
  refine xs_putC 8 r_11_5 rfl b1 (by rfl) (by rfl) (fun f1 x1 y1 => ?_)
  refine xs_f 9 r_11_8 rfl ?_
  refine xs_f 10 r_11_9 rfl ?_
  refine xs_get 13 r_11_10 rfl rfl (by first | assumption | exact xup_s | exact c1 | exact ((y1 _ (by omega)).trans c1) | exact ((y2 _ (by omega)).trans ((y1 _ (by omega)).trans c1)) | exact ((y3 _ (by omega)).trans ((y2 _ (by omega)).trans ((y1 _ (by omega)).trans c1))) | exact ((y4 _ (by omega)).trans ((y3 _ (by omega)).trans ((y2 _ (by omega)).trans ((y1 _ (by omega)).trans c1)))) | (refine (xup_n (by omega)).trans ?_; first | assumption | exact xup_s | exact c1 | exact ((y1 _ (by omega)).trans c1) | exact ((y2 _ (by omega)).trans ((y1 _ (by omega)).trans c1)) | exact ((y3 _ (by omega)).trans ((y2 _ (by omega)).trans ((y1 _ (by omega)).trans c1))) | exact ((y4 _ (by omega)).trans ((y3 _ (by omega)).trans ((y2 _ (by omega)).trans ((y1 _ (by omega)).trans c1))))) | (refine (xup_n (by omega)).trans ((xup_n (by omega)).trans ?_); first | assumption | exact xup_s | exact c1 | exact ((y1 _ (by omega)).trans c1) | exact ((y2 _ (by omega)).trans ((y1 _ (by omega)).trans c1)) | exact ((y3 _ (by omega)).trans ((y2 _ (by omega)).trans ((y1 _ (by omega)).trans c1))) | exact ((y4 _ (by omega)).trans ((y3 _ (by omega)).trans ((y2 _ (by omega)).trans ((y1 _ (by omega)).trans c1))))) | (refine (xup_n (by omega)).trans ((xup_n (by omega)).trans ((xup_n (by omega)).trans ?_)); first | assumption | exact xup_s | exact c1 | exact ((y1 _ (by omega)).trans c1) | exact ((y2 _ (by omega)).trans ((y1 _ (by omega)).trans c1)) | exact ((y3 _ (by omega)).trans ((y2 _ (by omega)).trans ((y1 _ (by omega)).trans c1))) | exact ((y4 _ (by omega)).trans ((y3 _ (by omega)).trans ((y2 _ (by omega)).trans ((y1 _ (by omega)).trans c1)))))) (by rfl) ?_
  refine xs_putC 16 r_11_13 rfl x1 (by rfl) (by rfl) (fun f2 x2 y2 => ?_)
  refine xs_f 17 r_11_16 rfl ?_
  refine xs_f 18 r_11_17 rfl ?_
  refine xs_get 21 r_11_18 rfl rfl (by first | assumption | exact xup_s | exact c1 | exact ((y1 _ (by omega)).trans c1) | exact ((y2 _ (by omega)).trans ((y1 _ (by omega)).trans c1)) | exact ((y3 _ (by omega)).trans ((y2 _ (by omega)).trans ((y1 _ (by omega)).trans c1))) | exact ((y4 _ (by omega)).trans ((y3 _ (by omega)).trans ((y2 _ (by omega)).trans ((y1 _ (by omega)).trans c1)))) | (refine (xup_n (by omega)).trans ?_; first | assumption | exact xup_s | exact c1 | exact ((y1 _ (by omega)).trans c1) | exact ((y2 _ (by omega)).trans ((y1 _ (by omega)).trans c1)) | exact ((y3 _ (by omega)).trans ((y2 _ (by omega)).trans ((y1 _ (by omega)).trans c1))) | exact ((y4 _ (by omega)).trans ((y3 _ (by omega)).trans ((y2 _ (by omega)).trans ((y1 _ (by omega)).trans c1))))) | (refine (xup_n (by omega)).trans ((xup_n (by omega)).trans ?_); first | assumption | exact xup_s | exact c1 | exact ((y1 _ (by omega)).trans c1) | exact ((y2 _ (by omega)).trans ((y1 _ (by omega)).trans c1)) | exact ((y3 _ (by omega)).trans ((y2 _ (by omega)).trans ((y1 _ (by omega)).trans c1))) | exact ((y4 _ (by omega)).trans ((y3 _ (by omega)).trans ((y2 _ (by omega)).trans ((y1 _ (by omega)).trans c1))))) | (refine (xup_n (by omega)).trans ((xup_n (by omega)).trans ((xup_n (by omega)).trans ?_)); first | assumption | exact xup_s | exact c1 | exact ((y1 _ (by omega)).trans c1) | exact ((y2 _ (by omega)).trans ((y1 _ (by omega)).trans c1)) | exact ((y3 _ (by omega)).trans ((y2 _ (by omega)).trans ((y1 _ (by omega)).trans c1))) | exact ((y4 _ (by omega)).trans ((y3 _ (by omega)).trans ((y2 _ (by omega)).trans ((y1 _ (by omega)).trans c1)))))) (by rfl) ?_
  refine xs_putC 24 r_11_21 rfl x2 (by rfl) (by rfl) (fun f3 x3 y3 => ?_)
  refine xs_f 25 r_11_24 rfl ?_
  refine xs_f 26 r_11_25 rfl ?_
  refine xs_get 29 r_11_26 rfl rfl (by first | assumption | exact xup_s | exact c1 | exact ((y1 _ (by omega)).trans c1) | exact ((y2 _ (by omega)).trans ((y1 _ (by omega)).trans c1)) | exact ((y3 _ (by omega)).trans ((y2 _ (by omega)).trans ((y1 _ (by omega)).trans c1))) | exact ((y4 _ (by omega)).trans ((y3 _ (by omega)).trans ((y2 _ (by omega)).trans ((y1 _ (by omega)).trans c1)))) | (refine (xup_n (by omega)).trans ?_; first | assumption | exact xup_s | exact c1 | exact ((y1 _ (by omega)).trans c1) | exact ((y2 _ (by omega)).trans ((y1 _ (by omega)).trans c1)) | exact ((y3 _ (by omega)).trans ((y2 _ (by omega)).trans ((y1 _ (by omega)).trans c1))) | exact ((y4 _ (by omega)).trans ((y3 _ (by omega)).trans ((y2 _ (by omega)).trans ((y1 _ (by omega)).trans c1))))) | (refine (xup_n (by omega)).trans ((xup_n (by omega)).trans ?_); first | assumption | exact xup_s | exact c1 | exact ((y1 _ (by omega)).trans c1) | exact ((y2 _ (by omega)).trans ((y1 _ (by omega)).trans c1)) | exact ((y3 _ (by omega)).trans ((y2 _ (by omega)).trans ((y1 _ (by omega)).trans c1))) | exact ((y4 _ (by omega)).trans ((y3 _ (by omega)).trans ((y2 _ (by omega)).trans ((y1 _ (by omega)).trans c1))))) | (refine (xup_n (by omega)).trans ((xup_n (by omega)).trans ((xup_n (by omega)).trans ?_)); first | assumption | exact xup_s | exact c1 | exact ((y1 _ (by omega)).trans c1) | exact ((y2 _ (by omega)).trans ((y1 _ (by omega)).trans c1)) | exact ((y3 _ (by omega)).trans ((y2 _ (by omega)).trans ((y1 _ (by omega)).trans c1))) | exact ((y4 _ (by omega)).trans ((y3 _ (by omega)).trans ((y2 _ (by omega)).trans ((y1 _ (by omega)).trans c1)))))) (by rfl) ?_
  refine xs_putC 32 r_11_29 rfl x3 (by rfl) (by rfl) (fun f4 x4 y4 => ?_)
  refine xs_f 33 r_11_32 rfl ?_
  refine xs_f 34 r_11_33 rfl ?_
  refine xs_get 37 r_11_34 rfl rfl (by first | assumption | exact xup_s | exact c1 | exact ((y1 _ (by omega)).trans c1) | exact ((y2 _ (by omega)).trans ((y1 _ (by omega)).trans c1)) | exact ((y3 _ (by omega)).trans ((y2 _ (by omega)).trans ((y1 _ (by omega)).trans c1))) | exact ((y4 _ (by omega)).trans ((y3 _ (by omega)).trans ((y2 _ (by omega)).trans ((y1 _ (by omega)).trans c1)))) | (refine (xup_n (by omega)).trans ?_; first | assumption | exact xup_s | exact c1 | exact ((y1 _ (by omega)).trans c1) | exact ((y2 _ (by omega)).trans ((y1 _ (by omega)).trans c1)) | exact ((y3 _ (by omega)).trans ((y2 _ (by omega)).trans ((y1 _ (by omega)).trans c1))) | exact ((y4 _ (by omega)).trans ((y3 _ (by omega)).trans ((y2 _ (by omega)).trans ((y1 _ (by omega)).trans c1))))) | (refine (xup_n (by omega)).trans ((xup_n (by omega)).trans ?_); first | assumption | exact xup_s | exact c1 | exact ((y1 _ (by omega)).trans c1) | exact ((y2 _ (by omega)).trans ((y1 _ (by omega)).trans c1)) | exact ((y3 _ (by omega)).trans ((y2 _ (by omega)).trans ((y1 _ (by omega)).trans c1))) | exact ((y4 _ (by omega)).trans ((y3 _ (by omega)).trans ((y2 _ (by omega)).trans ((y1 _ (by omega)).trans c1))))) | (refine (xup_n (by omega)).trans ((xup_n (by omega)).trans ((xup_n (by omega)).trans ?_)); first | assumption | exact xup_s | exact c1 | exact ((y1 _ (by omega)).trans c1) | exact ((y2 _ (by omega)).trans ((y1 _ (by omega)).trans c1)) | exact ((y3 _ (by omega)).trans ((y2 _ (by omega)).trans ((y1 _ (by omega)).trans c1))) | exact ((y4 _ (by omega)).trans ((y3 _ (by omega)).trans ((y2 _ (by omega)).trans ((y1 _ (by omega)).trans c1)))))) (by rfl) ?_
  refine xs_putC 40 r_11_37 rfl x4 (by rfl) (by rfl) (fun f5 x5 y5 => ?_)
  have hF5 := ((((y1.tr y2).tr y3).tr y4).tr y5)
  have hB5 := hB.obj x5 hF5 c2n c2o c2s
  have hC5 := hC.fr (g := f5) (fun x z1 z2 => hF5 x (by omega))
  obtain ⟨d1, -, -, -, d5, d6, -⟩ := id hC5
  obtain ⟨e1, -, -, -, e5, e6, -⟩ := id hB5
  refine xs_f 41 r_11_40 rfl ?_
  refine xs_get 44 r_11_41 rfl rfl e1 (by rfl) ?_
  refine xs_f 45 r_11_44 rfl ?_
  refine xs_get 48 r_11_45 rfl rfl d1 (by rfl) ?_
  refine xs_call (lv2 := [(0, _), (1, _)]) r_11_48 rfl rfl (by decide) (xcan_0 rfl rfl e5.1 (by rfl)) rfl (c_2 (h := (f5, h.2)) e5 d5 (by omega) (by omega) (by omega) (fun f6 x6 y6 => ?_))
  refine xK_0 rfl ?_
  have hB6 := hB5.bns x6 (y6.wd (by omega) (by omega))
  have hC6 := hC5.fr (g := f6) (fun x z1 z2 => y6 x (by omega))
  obtain ⟨d1, -, -, -, d5, d6, -⟩ := id hC6
  obtain ⟨e1, -, -, -, e5, e6, -⟩ := id hB6
  refine xs_f 52 r_11_51 rfl ?_
  refine xs_get 55 r_11_52 rfl rfl d1 (by rfl) ?_
  refine xs_f 56 r_11_55 rfl ?_
  refine xs_f 57 r_11_56 rfl ?_
  refine xs_get 60 r_11_57 rfl rfl e1 (by rfl) ?_
  refine xs_f 61 r_11_60 rfl ?_
  refine xs_f 62 r_11_61 rfl ?_
  refine xs_get 65 r_11_62 rfl rfl e1 (by rfl) ?_
  refine xs_lenA 66 r_11_65 rfl e6 ?_
  refine xs_cpy (n := 5) 69 r_11_66 rfl rfl rfl rfl rfl rfl d6 e6 (by omega) (fun f7 x7 y7 => ?_)
  have hB7 := hB6.tru x7 y7
  have hF7 := (((hF5.wd (lo := b) (hi := b + 1) (a := b) (b := b + 69) (by omega) (by omega)).tr (y6.wd (by omega) (by omega))).tr (y7.wd (by omega) (by omega)))
  refine xs_f 70 r_11_69 rfl ?_
  refine xs_f 71 (lv2 := [(2, _), (0, _), (1, _)]) r_11_70 rfl ?_
  exact xP_lv [(0, .ref b), (1, .ref c), (2, .int (nI 0))] rfl ⟨rfl, rfl, rfl, trivial⟩ (l_11a h32 h33 hbc hC k (np2 + 1) 0 f7 pl q R (by omega) (by omega) hB7 (fun j hj => absurd hj (Nat.not_lt_zero _)) hF7)

