/-! a board, all of its 69 cells; the queue stands in any order, s says where -/
/-- a question: number, weight, how many estimates, the estimates -/
abbrev XQu : Type := Int32 × (Int32 × (Nat × (Nat → XEst)))
def BdP (f : Nat → Option XE) (b np no : Nat) (nn : Int32) (sc : Nat) (ho : Int32) (TS TH tr : Nat → Int32) (pl : Nat → XPl) (q : Nat → XQu) (s : Nat → Nat) (R : Nat → Nat → Nat) : Prop :=
  f b = some (.inr (1, [.ref (b + 1), .ref (b + 2), .ref (b + 3), .ref (b + 6), .int (nI np), .int (nI no), .int nn, .int (nI sc), .int ho])) ∧
  (np ≤ 5 ∧ no ≤ 6 ∧ sc ≤ 100000) ∧
  RA f 16 (b + 1) 5 (fun i => b + 7 + 4 * i) ∧
  RA f 17 (b + 2) 6 (fun i => b + 27 + 7 * s i) ∧
  BAt f (b + 3) TS TH ∧ IA f 0 (b + 6) 5 tr ∧
  (∀ i, i < 5 → PAt f (b + 7 + 4 * i) (pl i)) ∧
  (∀ i, i < 6 → s i < 6) ∧ (∀ i j, i < 6 → j < 6 → s i = s j → i = j) ∧
  (∀ i, i < 6 → QAt f (b + 27 + 7 * s i) (q i).1 (q i).2.1 (q i).2.2.1 (q i).2.2.2 (R i))
section BDP
variable {f g : Nat → Option XE} {b np no : Nat} {nn : Int32} {sc : Nat} {ho : Int32} {TS TH tr : Nat → Int32} {pl : Nat → XPl} {q : Nat → XQu} {s : Nat → Nat} {R : Nat → Nat → Nat}
theorem BdP.fr (h : BdP f b np no nn sc ho TS TH tr pl q s R) (e : ∀ c, b ≤ c → c < b + 69 → g c = f c) : BdP g b np no nn sc ho TS TH tr pl q s R := by
  obtain ⟨b1, b2, b3, b4, b5, b6, b7, b8, b9, b10⟩ := h
  exact ⟨(e b (by omega) (by omega)).trans b1, b2, b3.fr (e _ (by omega) (by omega)), b4.fr (e _ (by omega) (by omega)), b5.fr (fun c x y => e c (by omega) (by omega)), b6.fr (e _ (by omega) (by omega)), fun i hi => (b7 i hi).fr (fun c x y => e c (by omega) (by omega)), b8, b9, fun i hi => (b10 i hi).fr (fun c x y => e c (by omega) (by have := b8 i hi; omega))⟩
/-- the board's own cell is written -/
theorem BdP.obj (h : BdP f b np no nn sc ho TS TH tr pl q s R) {np' no' : Nat} {nn' : Int32} {sc' : Nat} {ho' : Int32} (hg : g b = some (.inr (1, [.ref (b + 1), .ref (b + 2), .ref (b + 3), .ref (b + 6), .int (nI np'), .int (nI no'), .int nn', .int (nI sc'), .int ho']))) (hF : Fr f g b (b + 1)) (h1 : np' ≤ 5) (h2 : no' ≤ 6) (h3 : sc' ≤ 100000) : BdP g b np' no' nn' sc' ho' TS TH tr pl q s R := by
  obtain ⟨b1, b2, b3, b4, b5, b6, b7, b8, b9, b10⟩ := h
  exact ⟨hg, ⟨h1, h2, h3⟩, b3.fr (hF _ (by omega)), b4.fr (hF _ (by omega)), b5.fr (fun c x y => hF c (by omega)), b6.fr (hF _ (by omega)), fun i hi => (b7 i hi).fr (fun c x y => hF c (by omega)), b8, b9, fun i hi => (b10 i hi).fr (fun c x y => hF c (by omega))⟩
/-- a player is written -/
theorem BdP.ply (h : BdP f b np no nn sc ho TS TH tr pl q s R) {i : Nat} (hi : i < 5) {p : XPl} (hg : PAt g (b + 7 + 4 * i) p) (hF : Fr f g (b + 7 + 4 * i) (b + 7 + 4 * i + 4)) : BdP g b np no nn sc ho TS TH tr (xw pl i p) q s R := by
  obtain ⟨b1, b2, b3, b4, b5, b6, b7, b8, b9, b10⟩ := h
  refine ⟨(hF _ (by omega)).trans b1, b2, b3.fr (hF _ (by omega)), b4.fr (hF _ (by omega)), b5.fr (fun c x y => hF c (by omega)), b6.fr (hF _ (by omega)), fun j hj => ?_, b8, b9, fun i hi => (b10 i hi).fr (fun c x y => hF c (by omega))⟩
  by_cases z : j = i
  · rw [z, xw_s]; exact hg
  · rw [xw_n z]; exact (b7 j hj).fr (fun c x y => hF c (by omega))
/-- the board's bins are written -/
theorem BdP.bns (h : BdP f b np no nn sc ho TS TH tr pl q s R) {TS' TH' : Nat → Int32} (hg : BAt g (b + 3) TS' TH') (hF : Fr f g (b + 3) (b + 3 + 3)) : BdP g b np no nn sc ho TS' TH' tr pl q s R := by
  obtain ⟨b1, b2, b3, b4, b5, b6, b7, b8, b9, b10⟩ := h
  exact ⟨(hF _ (by omega)).trans b1, b2, b3.fr (hF _ (by omega)), b4.fr (hF _ (by omega)), hg, b6.fr (hF _ (by omega)), fun i hi => (b7 i hi).fr (fun c x y => hF c (by omega)), b8, b9, fun i hi => (b10 i hi).fr (fun c x y => hF c (by omega))⟩
/-- the true values are written -/
theorem BdP.tru (h : BdP f b np no nn sc ho TS TH tr pl q s R) {tr' : Nat → Int32} (hg : IA g 0 (b + 6) 5 tr') (hF : Fr f g (b + 6) (b + 6 + 1)) : BdP g b np no nn sc ho TS TH tr' pl q s R := by
  obtain ⟨b1, b2, b3, b4, b5, b6, b7, b8, b9, b10⟩ := h
  exact ⟨(hF _ (by omega)).trans b1, b2, b3.fr (hF _ (by omega)), b4.fr (hF _ (by omega)), b5.fr (fun c x y => hF c (by omega)), hg, fun i hi => (b7 i hi).fr (fun c x y => hF c (by omega)), b8, b9, fun i hi => (b10 i hi).fr (fun c x y => hF c (by omega))⟩
/-- a question is written -/
theorem BdP.que (h : BdP f b np no nn sc ho TS TH tr pl q s R) {i : Nat} (hi : i < 6) {nu w : Int32} {m : Nat} {E : Nat → XEst} {r : Nat → Nat} (hg : QAt g (b + 27 + 7 * s i) nu w m E r) (hF : Fr f g (b + 27 + 7 * s i) (b + 27 + 7 * s i + 7)) : BdP g b np no nn sc ho TS TH tr pl (xw q i (nu, (w, (m, E)))) s (xw R i r) := by
  obtain ⟨b1, b2, b3, b4, b5, b6, b7, b8, b9, b10⟩ := h
  refine ⟨(hF _ (by omega)).trans b1, b2, b3.fr (hF _ (by omega)), b4.fr (hF _ (by omega)), b5.fr (fun c x y => hF c (by omega)), b6.fr (hF _ (by omega)), fun j hj => (b7 j hj).fr (fun c x y => hF c (by omega)), b8, b9, fun j hj => ?_⟩
  by_cases z : j = i
  · rw [z, xw_s, xw_s]; exact hg
  · rw [xw_n z, xw_n z]
    have z2 : s j ≠ s i := fun e => z (b9 j i hj hi e)
    exact (b10 j hj).fr (fun c x y => hF c (by omega))
/-- the queue turns -/
theorem BdP.trn (h : BdP f b np no nn sc ho TS TH tr pl q s R) {lo hi : Nat} (h1 : lo ≤ hi) (h2 : hi < 6) (hg : RA g 17 (b + 2) 6 (fun i => b + 27 + 7 * rot s lo hi i)) (hF : Fr f g (b + 2) (b + 2 + 1)) : BdP g b np no nn sc ho TS TH tr pl (rot q lo hi) (rot s lo hi) (rot R lo hi) := by
  obtain ⟨b1, b2, b3, b4, b5, b6, b7, b8, b9, b10⟩ := h
  refine ⟨(hF _ (by omega)).trans b1, b2, b3.fr (hF _ (by omega)), hg, b5.fr (fun c x y => hF c (by omega)), b6.fr (hF _ (by omega)), fun i hi => (b7 i hi).fr (fun c x y => hF c (by omega)), fun i hi => ?_, fun i j hi hj e => ?_, fun i hi => ?_⟩
  · rw [rot_I]; exact b8 _ (rotI_lt h1 h2 hi)
  · rw [rot_I, rot_I] at e
    exact rotI_inj h1 (b9 _ _ (rotI_lt h1 h2 hi) (rotI_lt h1 h2 hj) e)
  · rw [rot_I s, rot_I q, rot_I R]
    exact (b10 _ (rotI_lt h1 h2 hi)).fr (fun c x y => hF c (by omega))
end BDP
/-- the first below n with p; n if there is none -/
def fnd (p : Nat → Bool) : Nat → Nat
  | 0 => 0
  | n + 1 => if fnd p n < n then fnd p n else bif p n then n else n + 1
theorem fnd_le (p : Nat → Bool) : ∀ n, fnd p n ≤ n
  | 0 => Nat.le_refl _
  | n + 1 => by
    unfold fnd
    split
    · omega
    · cases p n <;> simp
theorem fnd_at {p : Nat → Bool} : ∀ {n i : Nat}, i < n → p i = true → (∀ j, j < i → p j = false) → fnd p n = i
  | n + 1, i, h1, h2, h3 => by
    rcases Nat.lt_or_ge i n with z | z
    · have := fnd_at z h2 h3
      unfold fnd
      rw [if_pos (by omega), this]
    · have e : i = n := by omega
      subst e
      have h4 : ∀ n, n ≤ i → fnd p n = n := by
        intro n
        induction n with
        | zero => intro _; rfl
        | succ n ih =>
          intro hn
          have := ih (by omega)
          unfold fnd
          rw [if_neg (by omega), h3 n (by omega)]
          rfl
      have := h4 i (Nat.le_refl _)
      unfold fnd
      rw [if_neg (by omega), h2]
      rfl
theorem fnd_no {p : Nat → Bool} : ∀ {n : Nat}, (∀ j, j < n → p j = false) → fnd p n = n
  | 0, _ => rfl
  | n + 1, h => by
    have := fnd_no (n := n) (fun j hj => h j (by omega))
    unfold fnd
    rw [if_neg (by omega), h n (by omega)]
    rfl
def pla (q : Nat → XQu) (no : Nat) (n : Int32) : Nat := fnd (fun i => decide ((q i).1 = n)) no
def rnk (E : Nat → XEst) (many : Nat) (p : Int32) : Nat := fnd (fun i => decide ((E i).1 = p)) many
theorem c_78r {S : XSc} {d : Nat} {h : XH} {Q : XO → XH → Prop} {a : Nat} {num wt : Int32} {many : Nat} {E : Nat → XEst} {r : Nat → Nat} (hQ : QAt h.1 a num wt many E r) (h32 : 32 ≤ a) {p : Int32} (k1 : rnk E many p < many → Q (.inl (some (.int (nI (rnk E many p))))) h) (k0 : rnk E many p = many → Q (.inl (some (.int (-1)))) h) : xP S d 78 0 [(0, .ref a), (1, .int p)] [] h Q := by
  exact c_78 hQ h32 (fun i h1 h2 h3 => by
    have e : rnk E many p = i := fnd_at h1 (decide_eq_true h2) (fun j hj => decide_eq_false (h3 j hj))
    rw [← e]
    exact k1 (by omega)) (fun h1 => k0 (fnd_no (fun j hj => decide_eq_false (h1 j hj))))

theorem l_13 {S : XSc} {d : Nat} {h : XH} {Q : XO → XH → Prop} {b np no : Nat} {nn : Int32} {sc : Nat} {ho : Int32} {TS TH tr : Nat → Int32} {pl : Nat → XPl} {q : Nat → XQu} {s : Nat → Nat} {R : Nat → Nat → Nat} (hB : BdP h.1 b np no nn sc ho TS TH tr pl q s R) (h32 : 32 ≤ b) {n : Int32} (k1 : pla q no n < no → Q (.inl (some (.int (nI (pla q no n))))) h) (k0 : pla q no n = no → Q (.inl (some (.int (-1)))) h) : ∀ (m : Nat) (i : Nat), no - i < m → (i ≤ no) → (∀ j, j < i → (q j).1 ≠ n) → xP S d 13 2 [(0, .ref b), (1, .int n), (2, .int (nI i))] [] h Q := by
  intro m
  induction m with
  | zero => intro i hm; exact absurd hm (Nat.not_lt_zero _)
  | succ m ih =>
    intro i hm hi hj
    obtain ⟨b1, ⟨b2n, b2o, b2s⟩, b3, b4, b5, b6, b7, b8, b9, b10⟩ := id hB
    refine xs_f 3 r_13_2 rfl ?_
    refine xs_f 4 r_13_3 rfl ?_
    refine xs_get 7 r_13_4 rfl rfl (by first | assumption | exact xup_s | exact (b7 _ (by omega)).1 | exact (b10 _ (by omega)).1 | (refine (xup_n (by omega)).trans ?_; first | assumption | exact xup_s | exact (b7 _ (by omega)).1 | exact (b10 _ (by omega)).1) | (refine (xup_n (by omega)).trans ((xup_n (by omega)).trans ?_); first | assumption | exact xup_s | exact (b7 _ (by omega)).1 | exact (b10 _ (by omega)).1) | (refine (xup_n (by omega)).trans ((xup_n (by omega)).trans ((xup_n (by omega)).trans ?_)); first | assumption | exact xup_s | exact (b7 _ (by omega)).1 | exact (b10 _ (by omega)).1)) (by rfl) ?_
    refine xs_if 31 10 r_13_7 rfl (fun hc1 => ?_) (fun hc1 => ?_)
    · have hc1 := (nI_leN rfl rfl (by omega) (by omega)).mp hc1
      refine xs_f 32 r_13_31 rfl ?_
      refine xs_ret r_13_32 rfl ?_
      exact k0 (fnd_no (fun j hjm => decide_eq_false (hj j (by omega))))
    · have hc1 := mt (nI_leN rfl rfl (by omega) (by omega)).mpr hc1
      refine xs_f 11 r_13_10 rfl ?_
      refine xs_get 14 r_13_11 rfl rfl (by first | assumption | exact xup_s | exact (b7 _ (by omega)).1 | exact (b10 _ (by omega)).1 | (refine (xup_n (by omega)).trans ?_; first | assumption | exact xup_s | exact (b7 _ (by omega)).1 | exact (b10 _ (by omega)).1) | (refine (xup_n (by omega)).trans ((xup_n (by omega)).trans ?_); first | assumption | exact xup_s | exact (b7 _ (by omega)).1 | exact (b10 _ (by omega)).1) | (refine (xup_n (by omega)).trans ((xup_n (by omega)).trans ((xup_n (by omega)).trans ?_)); first | assumption | exact xup_s | exact (b7 _ (by omega)).1 | exact (b10 _ (by omega)).1)) (by rfl) ?_
      refine xs_f 15 r_13_14 rfl ?_
      refine xs_aldR 16 r_13_15 (fun _ _ => rfl) rfl rfl rfl (j := i) rfl (by first | assumption | (refine RA.fr ?_ (xup_n (by omega)); first | assumption) | (refine RA.fr (RA.fr ?_ (xup_n (by omega))) (xup_n (by omega)); first | assumption) | (refine RA.fr (RA.fr (RA.fr ?_ (xup_n (by omega))) (xup_n (by omega))) (xup_n (by omega)); first | assumption)) (by omega) ?_
      refine xs_get 19 r_13_16 rfl rfl (by first | assumption | exact xup_s | exact (b7 _ (by omega)).1 | exact (b10 _ (by omega)).1 | (refine (xup_n (by omega)).trans ?_; first | assumption | exact xup_s | exact (b7 _ (by omega)).1 | exact (b10 _ (by omega)).1) | (refine (xup_n (by omega)).trans ((xup_n (by omega)).trans ?_); first | assumption | exact xup_s | exact (b7 _ (by omega)).1 | exact (b10 _ (by omega)).1) | (refine (xup_n (by omega)).trans ((xup_n (by omega)).trans ((xup_n (by omega)).trans ?_)); first | assumption | exact xup_s | exact (b7 _ (by omega)).1 | exact (b10 _ (by omega)).1)) (by rfl) ?_
      refine xs_f 20 r_13_19 rfl ?_
      refine xs_if 23 25 r_13_20 rfl (fun he => ?_) (fun he => ?_)
      · refine xs_f 24 r_13_23 rfl ?_
        refine xs_ret r_13_24 rfl ?_
        have e : pla q no n = i := fnd_at (by omega) (decide_eq_true he) (fun j hj2 => decide_eq_false (hj j hj2))
        rw [← e]
        exact k1 (by omega)
      · refine xs_f 28 (lv2 := [(2, _), (0, _), (1, _)]) r_13_25 rfl ?_
        refine xs_f 2 r_13_28 rfl ?_
        exact xP_lv [(0, .ref b), (1, .int n), (2, .int (nI (i + 1)))] rfl ⟨rfl, rfl, (by rw [nI_succ]; rfl), trivial⟩ (ih (i + 1) (by omega) (by omega) (fun j hj2 => by
          rcases Nat.lt_or_ge j i with z | z
          · exact hj j z
          · rw [show j = i by omega]; exact he))

theorem c_13 {S : XSc} {d : Nat} {h : XH} {Q : XO → XH → Prop} {b np no : Nat} {nn : Int32} {sc : Nat} {ho : Int32} {TS TH tr : Nat → Int32} {pl : Nat → XPl} {q : Nat → XQu} {s : Nat → Nat} {R : Nat → Nat → Nat} (hB : BdP h.1 b np no nn sc ho TS TH tr pl q s R) (h32 : 32 ≤ b) {n : Int32} (k1 : pla q no n < no → Q (.inl (some (.int (nI (pla q no n))))) h) (k0 : pla q no n = no → Q (.inl (some (.int (-1)))) h) : xP S d 13 0 [(0, .ref b), (1, .int n)] [] h Q := by
  obtain ⟨b1, ⟨b2n, b2o, b2s⟩, b3, b4, b5, b6, b7, b8, b9, b10⟩ := id hB
  refine xs_f 1 r_13_0 rfl ?_
  refine xs_f 2 (lv2 := [(2, _), (0, _), (1, _)]) r_13_1 rfl ?_
  exact xP_lv [(0, .ref b), (1, .int n), (2, .int (nI 0))] rfl ⟨rfl, rfl, rfl, trivial⟩ (l_13 hB h32 k1 k0 (no + 1) 0 (by omega) (by omega) (fun j hj => absurd hj (Nat.not_lt_zero _)))

/-- is it a player -/
abbrev isPl (np : Nat) (p : Int32) : Prop := 0 ≤ p ∧ p < nI np
theorem isPl_nI {np : Nat} {p : Int32} (h : isPl np p) (hn : np ≤ 5) : ∃ i, i < np ∧ p = nI i := by
  obtain ⟨j, h1, rfl⟩ := nI_of (x := p) (fun z => absurd h.1 (Int32.not_le.mpr z))
  exact ⟨j, (nI_ltI h1 (by omega)).mp h.2, rfl⟩
theorem isPl_j {np j : Nat} (h : j < np) (hn : np ≤ 5) : isPl np (nI j) := ⟨nI_pos' (by omega), nI_lt h (by omega)⟩
theorem c_12 {S : XSc} {d : Nat} {h : XH} {Q : XO → XH → Prop} {b np no : Nat} {nn : Int32} {sc : Nat} {ho : Int32} {TS TH tr : Nat → Int32} {pl : Nat → XPl} {q : Nat → XQu} {s : Nat → Nat} {R : Nat → Nat → Nat} (hB : BdP h.1 b np no nn sc ho TS TH tr pl q s R) (h32 : 32 ≤ b) {p : Int32} (k1 : isPl np p → Q (.inl (some (.int 1))) h) (k0 : ¬ isPl np p → Q (.inl (some (.int 0))) h) : xP S d 12 0 [(0, .ref b), (1, .int p)] [] h Q := by
  obtain ⟨b1, ⟨b2n, b2o, b2s⟩, b3, b4, b5, b6, b7, b8, b9, b10⟩ := id hB
  refine xs_f 1 r_12_0 rfl ?_
  refine xs_if 16 4 r_12_1 rfl (fun hc1 => ?_) (fun hc1 => ?_)
  · refine xs_f 17 r_12_16 rfl ?_
    refine xs_ret r_12_17 rfl ?_
    first | exact k1 ⟨Int32.not_lt.mp hc1, Int32.not_le.mp hc2⟩ | exact k0 (fun z => absurd hc1 (Int32.not_lt.mpr z.1)) | exact k0 (fun z => absurd hc2 (Int32.not_le.mpr z.2))
  · refine xs_f 5 r_12_4 rfl ?_
    refine xs_f 6 r_12_5 rfl ?_
    refine xs_get 9 r_12_6 rfl rfl (by first | assumption | exact xup_s | exact (b7 _ (by omega)).1 | exact (b10 _ (by omega)).1 | (refine (xup_n (by omega)).trans ?_; first | assumption | exact xup_s | exact (b7 _ (by omega)).1 | exact (b10 _ (by omega)).1) | (refine (xup_n (by omega)).trans ((xup_n (by omega)).trans ?_); first | assumption | exact xup_s | exact (b7 _ (by omega)).1 | exact (b10 _ (by omega)).1) | (refine (xup_n (by omega)).trans ((xup_n (by omega)).trans ((xup_n (by omega)).trans ?_)); first | assumption | exact xup_s | exact (b7 _ (by omega)).1 | exact (b10 _ (by omega)).1)) (by rfl) ?_
    refine xs_if 16 12 r_12_9 rfl (fun hc2 => ?_) (fun hc2 => ?_)
    · refine xs_f 17 r_12_16 rfl ?_
      refine xs_ret r_12_17 rfl ?_
      first | exact k1 ⟨Int32.not_lt.mp hc1, Int32.not_le.mp hc2⟩ | exact k0 (fun z => absurd hc1 (Int32.not_lt.mpr z.1)) | exact k0 (fun z => absurd hc2 (Int32.not_le.mpr z.2))
    · refine xs_f 13 r_12_12 rfl ?_
      refine xs_f 17 r_12_13 rfl ?_
      refine xs_ret r_12_17 rfl ?_
      first | exact k1 ⟨Int32.not_lt.mp hc1, Int32.not_le.mp hc2⟩ | exact k0 (fun z => absurd hc1 (Int32.not_lt.mpr z.1)) | exact k0 (fun z => absurd hc2 (Int32.not_le.mpr z.2))

def joinF (np : Nat) : Nat := if np < 5 then 0 else 5
def askF (no : Nat) (w : Int32) : Nat := if 1 ≤ w ∧ w ≤ 3 then (if no < 6 then 0 else 5) else 3
def postF (no : Nat) : Nat := if 0 < no then 0 else 2
theorem xq_ref {Q : XO → XH → Prop} {h : XH} {a b : Nat} (k : Q (.inl (some (.ref b))) h) (e : b = a) : Q (.inl (some (.ref a))) h := by rw [← e]; exact k
theorem c_14 {S : XSc} {d : Nat} {h : XH} {Q : XO → XH → Prop} {b np no : Nat} {nn : Int32} {sc : Nat} {ho : Int32} {TS TH tr : Nat → Int32} {pl : Nat → XPl} {q : Nat → XQu} {s : Nat → Nat} {R : Nat → Nat → Nat} (hB : BdP h.1 b np no nn sc ho TS TH tr pl q s R) (h32 : 32 ≤ b) (k : Q (.inl (some (.ref (joinF np)))) h) : xP S d 14 0 [(0, .ref b)] [] h Q := by
  obtain ⟨b1, ⟨b2n, b2o, b2s⟩, b3, b4, b5, b6, b7, b8, b9, b10⟩ := id hB
  refine xs_f 1 r_14_0 rfl ?_
  refine xs_get 4 r_14_1 rfl rfl (by first | assumption | exact xup_s | exact (b7 _ (by omega)).1 | exact (b10 _ (by omega)).1 | (refine (xup_n (by omega)).trans ?_; first | assumption | exact xup_s | exact (b7 _ (by omega)).1 | exact (b10 _ (by omega)).1) | (refine (xup_n (by omega)).trans ((xup_n (by omega)).trans ?_); first | assumption | exact xup_s | exact (b7 _ (by omega)).1 | exact (b10 _ (by omega)).1) | (refine (xup_n (by omega)).trans ((xup_n (by omega)).trans ((xup_n (by omega)).trans ?_)); first | assumption | exact xup_s | exact (b7 _ (by omega)).1 | exact (b10 _ (by omega)).1)) (by rfl) ?_
  refine xs_f 5 r_14_4 rfl ?_
  refine xs_if 14 8 r_14_5 rfl (fun hc1 => ?_) (fun hc1 => ?_)
  · have hc1 := (nI_leN (nI_k 5) rfl (by omega) (by omega)).mp hc1
    refine xs_gst 17 r_14_14 rfl ?_
    refine xs_ret r_14_17 rfl ?_
    first | exact xq_ref k (if_pos (by omega)) | exact xq_ref k (if_neg (by omega))
  · have hc1 := mt (nI_leN (nI_k 5) rfl (by omega) (by omega)).mpr hc1
    refine xs_gst 11 r_14_8 rfl ?_
    refine xs_f 17 r_14_11 rfl ?_
    refine xs_ret r_14_17 rfl ?_
    first | exact xq_ref k (if_pos (by omega)) | exact xq_ref k (if_neg (by omega))

theorem c_16 {S : XSc} {d : Nat} {h : XH} {Q : XO → XH → Prop} {b np no : Nat} {nn : Int32} {sc : Nat} {ho : Int32} {TS TH tr : Nat → Int32} {pl : Nat → XPl} {q : Nat → XQu} {s : Nat → Nat} {R : Nat → Nat → Nat} (hB : BdP h.1 b np no nn sc ho TS TH tr pl q s R) (h32 : 32 ≤ b) {w : Int32} (k : Q (.inl (some (.ref (askF no w)))) h) : xP S d 16 0 [(0, .ref b), (1, .int w)] [] h Q := by
  obtain ⟨b1, ⟨b2n, b2o, b2s⟩, b3, b4, b5, b6, b7, b8, b9, b10⟩ := id hB
  refine xs_f 1 r_16_0 rfl ?_
  refine xs_f 2 r_16_1 rfl ?_
  refine xs_if 10 5 r_16_2 rfl (fun hc1 => ?_) (fun hc1 => ?_)
  · refine xs_gst 13 r_16_10 rfl ?_
    refine xs_ret r_16_13 rfl ?_
    first | exact xq_ref k (if_neg (fun z => absurd hc1 (Int32.not_lt.mpr z.1))) | exact xq_ref k (if_neg (fun z => hc2 z.2)) | exact xq_ref k ((if_pos ⟨Int32.not_lt.mp hc1, hc2⟩).trans (if_pos (by omega))) | exact xq_ref k ((if_pos ⟨Int32.not_lt.mp hc1, hc2⟩).trans (if_neg (by omega)))
  · refine xs_f 6 r_16_5 rfl ?_
    refine xs_f 7 r_16_6 rfl ?_
    refine xs_if 14 10 r_16_7 rfl (fun hc2 => ?_) (fun hc2 => ?_)
    · refine xs_f 15 r_16_14 rfl ?_
      refine xs_get 18 r_16_15 rfl rfl (by first | assumption | exact xup_s | exact (b7 _ (by omega)).1 | exact (b10 _ (by omega)).1 | (refine (xup_n (by omega)).trans ?_; first | assumption | exact xup_s | exact (b7 _ (by omega)).1 | exact (b10 _ (by omega)).1) | (refine (xup_n (by omega)).trans ((xup_n (by omega)).trans ?_); first | assumption | exact xup_s | exact (b7 _ (by omega)).1 | exact (b10 _ (by omega)).1) | (refine (xup_n (by omega)).trans ((xup_n (by omega)).trans ((xup_n (by omega)).trans ?_)); first | assumption | exact xup_s | exact (b7 _ (by omega)).1 | exact (b10 _ (by omega)).1)) (by rfl) ?_
      refine xs_f 20 r_16_18 rfl ?_
      refine xs_if 29 23 r_16_20 rfl (fun hc3 => ?_) (fun hc3 => ?_)
      · have hc3 := (nI_leN (nI_k 6) rfl (by omega) (by omega)).mp hc3
        refine xs_gst 32 r_16_29 rfl ?_
        refine xs_ret r_16_32 rfl ?_
        first | exact xq_ref k (if_neg (fun z => absurd hc1 (Int32.not_lt.mpr z.1))) | exact xq_ref k (if_neg (fun z => hc2 z.2)) | exact xq_ref k ((if_pos ⟨Int32.not_lt.mp hc1, hc2⟩).trans (if_pos (by omega))) | exact xq_ref k ((if_pos ⟨Int32.not_lt.mp hc1, hc2⟩).trans (if_neg (by omega)))
      · have hc3 := mt (nI_leN (nI_k 6) rfl (by omega) (by omega)).mpr hc3
        refine xs_gst 26 r_16_23 rfl ?_
        refine xs_f 32 r_16_26 rfl ?_
        refine xs_ret r_16_32 rfl ?_
        first | exact xq_ref k (if_neg (fun z => absurd hc1 (Int32.not_lt.mpr z.1))) | exact xq_ref k (if_neg (fun z => hc2 z.2)) | exact xq_ref k ((if_pos ⟨Int32.not_lt.mp hc1, hc2⟩).trans (if_pos (by omega))) | exact xq_ref k ((if_pos ⟨Int32.not_lt.mp hc1, hc2⟩).trans (if_neg (by omega)))
    · refine xs_gst 13 r_16_10 rfl ?_
      refine xs_ret r_16_13 rfl ?_
      first | exact xq_ref k (if_neg (fun z => absurd hc1 (Int32.not_lt.mpr z.1))) | exact xq_ref k (if_neg (fun z => hc2 z.2)) | exact xq_ref k ((if_pos ⟨Int32.not_lt.mp hc1, hc2⟩).trans (if_pos (by omega))) | exact xq_ref k ((if_pos ⟨Int32.not_lt.mp hc1, hc2⟩).trans (if_neg (by omega)))

theorem c_25 {S : XSc} {d : Nat} {h : XH} {Q : XO → XH → Prop} {b np no : Nat} {nn : Int32} {sc : Nat} {ho : Int32} {TS TH tr : Nat → Int32} {pl : Nat → XPl} {q : Nat → XQu} {s : Nat → Nat} {R : Nat → Nat → Nat} (hB : BdP h.1 b np no nn sc ho TS TH tr pl q s R) (h32 : 32 ≤ b) (k : Q (.inl (some (.ref (postF no)))) h) : xP S d 25 0 [(0, .ref b)] [] h Q := by
  obtain ⟨b1, ⟨b2n, b2o, b2s⟩, b3, b4, b5, b6, b7, b8, b9, b10⟩ := id hB
  refine xs_f 1 r_25_0 rfl ?_
  refine xs_get 4 r_25_1 rfl rfl (by first | assumption | exact xup_s | exact (b7 _ (by omega)).1 | exact (b10 _ (by omega)).1 | (refine (xup_n (by omega)).trans ?_; first | assumption | exact xup_s | exact (b7 _ (by omega)).1 | exact (b10 _ (by omega)).1) | (refine (xup_n (by omega)).trans ((xup_n (by omega)).trans ?_); first | assumption | exact xup_s | exact (b7 _ (by omega)).1 | exact (b10 _ (by omega)).1) | (refine (xup_n (by omega)).trans ((xup_n (by omega)).trans ((xup_n (by omega)).trans ?_)); first | assumption | exact xup_s | exact (b7 _ (by omega)).1 | exact (b10 _ (by omega)).1)) (by rfl) ?_
  refine xs_if 13 7 r_25_4 rfl (fun hc1 => ?_) (fun hc1 => ?_)
  · have hc1 := (nI_leN rfl (nI_k 0) (by omega) (by omega)).mp hc1
    refine xs_gst 16 r_25_13 rfl ?_
    refine xs_ret r_25_16 rfl ?_
    first | exact xq_ref k (if_pos (by omega)) | exact xq_ref k (if_neg (by omega))
  · have hc1 := mt (nI_leN rfl (nI_k 0) (by omega) (by omega)).mpr hc1
    refine xs_gst 10 r_25_7 rfl ?_
    refine xs_f 16 r_25_10 rfl ?_
    refine xs_ret r_25_16 rfl ?_
    first | exact xq_ref k (if_pos (by omega)) | exact xq_ref k (if_neg (by omega))

def settF (no : Nat) (t : Int32) : Nat := if 0 ≤ t ∧ t ≤ 999 then postF no else 3
theorem c_20 {S : XSc} {d : Nat} {h : XH} {Q : XO → XH → Prop} {b np no : Nat} {nn : Int32} {sc : Nat} {ho : Int32} {TS TH tr : Nat → Int32} {pl : Nat → XPl} {q : Nat → XQu} {s : Nat → Nat} {R : Nat → Nat → Nat} (hB : BdP h.1 b np no nn sc ho TS TH tr pl q s R) (h32 : 32 ≤ b) {t : Int32} (k : Q (.inl (some (.ref (settF no t)))) h) : xP S (d + 1) 20 0 [(0, .ref b), (1, .int t)] [] h Q := by
  obtain ⟨b1, ⟨b2n, b2o, b2s⟩, b3, b4, b5, b6, b7, b8, b9, b10⟩ := id hB
  refine xs_f 1 r_20_0 rfl ?_
  refine xs_call (lv2 := [(0, _)]) r_20_1 rfl rfl (by decide) (xcan_3 rfl rfl) rfl (c_136 (fun hv => ?_) (fun hv => ?_))
  · refine xK_v rfl ?_
    refine xs_f 7 r_20_4 rfl ?_
    refine xs_f 8 r_20_7 rfl ?_
    refine xs_call (lv2 := [(0, _)]) r_20_8 rfl rfl (by decide) (xcan_0 rfl rfl (by first | assumption | exact xup_s | exact (b7 _ (by omega)).1 | exact (b10 _ (by omega)).1 | (refine (xup_n (by omega)).trans ?_; first | assumption | exact xup_s | exact (b7 _ (by omega)).1 | exact (b10 _ (by omega)).1) | (refine (xup_n (by omega)).trans ((xup_n (by omega)).trans ?_); first | assumption | exact xup_s | exact (b7 _ (by omega)).1 | exact (b10 _ (by omega)).1) | (refine (xup_n (by omega)).trans ((xup_n (by omega)).trans ((xup_n (by omega)).trans ?_)); first | assumption | exact xup_s | exact (b7 _ (by omega)).1 | exact (b10 _ (by omega)).1)) (by rfl)) rfl (c_25 hB h32 ?_)
    refine xK_v rfl ?_
    refine xs_f 17 r_20_11 rfl ?_
    refine xs_ret r_20_17 rfl ?_
    first | exact xq_ref k (if_pos hv) | exact xq_ref k (if_neg hv)
  · refine xK_v rfl ?_
    refine xs_f 14 r_20_4 rfl ?_
    refine xs_gst 17 r_20_14 rfl ?_
    refine xs_ret r_20_17 rfl ?_
    first | exact xq_ref k (if_pos hv) | exact xq_ref k (if_neg hv)

theorem c_15 {S : XSc} {d : Nat} {h : XH} {Q : XO → XH → Prop} {b np no : Nat} {nn : Int32} {sc : Nat} {ho : Int32} {TS TH tr : Nat → Int32} {pl : Nat → XPl} {q : Nat → XQu} {s : Nat → Nat} {R : Nat → Nat → Nat} (hB : BdP h.1 b np no nn sc ho TS TH tr pl q s R) (h32 : 32 ≤ b) (hn : np < 5) (k : ∀ f, BdP f b (np + 1) no nn sc ho TS TH tr (xw pl np (100, (0, (false, (fun _ => 0, fun _ => 0))))) q s R → Fr h.1 f b (b + 69) → Q (.inl (some (.int (nI np)))) (f, h.2)) : xP S (d + 3) 15 0 [(0, .ref b)] [] h Q := by
  obtain ⟨b1, ⟨b2n, b2o, b2s⟩, b3, b4, b5, b6, b7, b8, b9, b10⟩ := id hB
  refine xs_f 1 r_15_0 rfl ?_
  refine xs_get 4 r_15_1 rfl rfl (by first | assumption | exact xup_s | exact g1 | exact (b7 _ (by omega)).1 | exact (b10 _ (by omega)).1 | (refine (xup_n (by omega)).trans ?_; first | assumption | exact xup_s | exact g1 | exact (b7 _ (by omega)).1 | exact (b10 _ (by omega)).1) | (refine (xup_n (by omega)).trans ((xup_n (by omega)).trans ?_); first | assumption | exact xup_s | exact g1 | exact (b7 _ (by omega)).1 | exact (b10 _ (by omega)).1) | (refine (xup_n (by omega)).trans ((xup_n (by omega)).trans ((xup_n (by omega)).trans ?_)); first | assumption | exact xup_s | exact g1 | exact (b7 _ (by omega)).1 | exact (b10 _ (by omega)).1)) (by rfl) ?_
  refine xs_f 5 r_15_4 rfl ?_
  refine xs_get 8 r_15_5 rfl rfl (by first | assumption | exact xup_s | exact g1 | exact (b7 _ (by omega)).1 | exact (b10 _ (by omega)).1 | (refine (xup_n (by omega)).trans ?_; first | assumption | exact xup_s | exact g1 | exact (b7 _ (by omega)).1 | exact (b10 _ (by omega)).1) | (refine (xup_n (by omega)).trans ((xup_n (by omega)).trans ?_); first | assumption | exact xup_s | exact g1 | exact (b7 _ (by omega)).1 | exact (b10 _ (by omega)).1) | (refine (xup_n (by omega)).trans ((xup_n (by omega)).trans ((xup_n (by omega)).trans ?_)); first | assumption | exact xup_s | exact g1 | exact (b7 _ (by omega)).1 | exact (b10 _ (by omega)).1)) (by rfl) ?_
  refine xs_aldR 9 r_15_8 (fun _ _ => rfl) rfl rfl rfl (j := np) rfl (by first | assumption | (refine RA.fr ?_ (xup_n (by omega)); first | assumption) | (refine RA.fr (RA.fr ?_ (xup_n (by omega))) (xup_n (by omega)); first | assumption) | (refine RA.fr (RA.fr (RA.fr ?_ (xup_n (by omega))) (xup_n (by omega))) (xup_n (by omega)); first | assumption)) (by omega) ?_
  refine xs_call (lv2 := [(0, _)]) r_15_9 rfl rfl (by decide) (xcan_0 rfl rfl (by first | assumption | exact xup_s | exact g1 | exact (b7 _ (by omega)).1 | exact (b10 _ (by omega)).1 | (refine (xup_n (by omega)).trans ?_; first | assumption | exact xup_s | exact g1 | exact (b7 _ (by omega)).1 | exact (b10 _ (by omega)).1) | (refine (xup_n (by omega)).trans ((xup_n (by omega)).trans ?_); first | assumption | exact xup_s | exact g1 | exact (b7 _ (by omega)).1 | exact (b10 _ (by omega)).1) | (refine (xup_n (by omega)).trans ((xup_n (by omega)).trans ((xup_n (by omega)).trans ?_)); first | assumption | exact xup_s | exact g1 | exact (b7 _ (by omega)).1 | exact (b10 _ (by omega)).1)) (by rfl)) rfl (c_72 (b7 np hn) (by omega) (fun f1 x1 y1 => ?_))
  refine xK_0 rfl ?_
  refine xs_f 13 r_15_12 rfl ?_
  refine xs_f 14 r_15_13 rfl ?_
  have hB1 := hB.ply hn x1 y1
  have g1 := hB1.1
  refine xs_get 17 r_15_14 rfl rfl (by first | assumption | exact xup_s | exact g1 | exact (b7 _ (by omega)).1 | exact (b10 _ (by omega)).1 | (refine (xup_n (by omega)).trans ?_; first | assumption | exact xup_s | exact g1 | exact (b7 _ (by omega)).1 | exact (b10 _ (by omega)).1) | (refine (xup_n (by omega)).trans ((xup_n (by omega)).trans ?_); first | assumption | exact xup_s | exact g1 | exact (b7 _ (by omega)).1 | exact (b10 _ (by omega)).1) | (refine (xup_n (by omega)).trans ((xup_n (by omega)).trans ((xup_n (by omega)).trans ?_)); first | assumption | exact xup_s | exact g1 | exact (b7 _ (by omega)).1 | exact (b10 _ (by omega)).1)) (by rfl) ?_
  refine xs_f 18 r_15_17 rfl ?_
  refine xs_f 19 r_15_18 rfl ?_
  refine xs_putC 22 r_15_19 rfl (by first | assumption | exact xup_s | exact g1 | exact (b7 _ (by omega)).1 | exact (b10 _ (by omega)).1 | (refine (xup_n (by omega)).trans ?_; first | assumption | exact xup_s | exact g1 | exact (b7 _ (by omega)).1 | exact (b10 _ (by omega)).1) | (refine (xup_n (by omega)).trans ((xup_n (by omega)).trans ?_); first | assumption | exact xup_s | exact g1 | exact (b7 _ (by omega)).1 | exact (b10 _ (by omega)).1) | (refine (xup_n (by omega)).trans ((xup_n (by omega)).trans ((xup_n (by omega)).trans ?_)); first | assumption | exact xup_s | exact g1 | exact (b7 _ (by omega)).1 | exact (b10 _ (by omega)).1)) (by rfl) (by rfl) (fun f2 x2 y2 => ?_)
  refine xs_f 23 r_15_22 rfl ?_
  refine xs_get 26 r_15_23 rfl rfl x2 (show _ = some (Value.int (nI (np + 1))) from by rw [nI_succ]; rfl) ?_
  refine xs_f 27 r_15_26 rfl ?_
  refine xs_f 28 r_15_27 rfl ?_
  refine xs_ret r_15_28 rfl ?_
  exact xq_int (k f2 (hB1.obj (x2.trans (by rw [nI_succ]; rfl)) y2 (by omega) b2o b2s) ((y1.wd (by omega) (by omega)).tr (y2.wd (by omega) (by omega)))) (nI_pred np)

theorem c_17 {S : XSc} {d : Nat} {h : XH} {Q : XO → XH → Prop} {b np no : Nat} {nn : Int32} {sc : Nat} {ho : Int32} {TS TH tr : Nat → Int32} {pl : Nat → XPl} {q : Nat → XQu} {s : Nat → Nat} {R : Nat → Nat → Nat} (hB : BdP h.1 b np no nn sc ho TS TH tr pl q s R) (h32 : 32 ≤ b) {w : Int32} (hn : no < 6) (k : ∀ f R, BdP f b np (no + 1) (nn + 1) sc ho TS TH tr pl (xw q no (nn, (w, (0, (q no).2.2.2)))) s R → Fr h.1 f b (b + 69) → Q (.inl (some (.int nn))) (f, h.2)) : xP S (d + 1) 17 0 [(0, .ref b), (1, .int w)] [] h Q := by
  obtain ⟨b1, ⟨b2n, b2o, b2s⟩, b3, b4, b5, b6, b7, b8, b9, b10⟩ := id hB
  have z8 := b8 no hn
  refine xs_f 1 r_17_0 rfl ?_
  refine xs_get 4 r_17_1 rfl rfl (by first | assumption | exact xup_s | exact g1 | exact (b7 _ (by omega)).1 | exact (b10 _ (by omega)).1 | (refine (xup_n (by omega)).trans ?_; first | assumption | exact xup_s | exact g1 | exact (b7 _ (by omega)).1 | exact (b10 _ (by omega)).1) | (refine (xup_n (by omega)).trans ((xup_n (by omega)).trans ?_); first | assumption | exact xup_s | exact g1 | exact (b7 _ (by omega)).1 | exact (b10 _ (by omega)).1) | (refine (xup_n (by omega)).trans ((xup_n (by omega)).trans ((xup_n (by omega)).trans ?_)); first | assumption | exact xup_s | exact g1 | exact (b7 _ (by omega)).1 | exact (b10 _ (by omega)).1)) (by rfl) ?_
  refine xs_f 5 r_17_4 rfl ?_
  refine xs_get 8 r_17_5 rfl rfl (by first | assumption | exact xup_s | exact g1 | exact (b7 _ (by omega)).1 | exact (b10 _ (by omega)).1 | (refine (xup_n (by omega)).trans ?_; first | assumption | exact xup_s | exact g1 | exact (b7 _ (by omega)).1 | exact (b10 _ (by omega)).1) | (refine (xup_n (by omega)).trans ((xup_n (by omega)).trans ?_); first | assumption | exact xup_s | exact g1 | exact (b7 _ (by omega)).1 | exact (b10 _ (by omega)).1) | (refine (xup_n (by omega)).trans ((xup_n (by omega)).trans ((xup_n (by omega)).trans ?_)); first | assumption | exact xup_s | exact g1 | exact (b7 _ (by omega)).1 | exact (b10 _ (by omega)).1)) (by rfl) ?_
  refine xs_aldR 9 r_17_8 (fun _ _ => rfl) rfl rfl rfl (j := no) rfl (by first | assumption | (refine RA.fr ?_ (xup_n (by omega)); first | assumption) | (refine RA.fr (RA.fr ?_ (xup_n (by omega))) (xup_n (by omega)); first | assumption) | (refine RA.fr (RA.fr (RA.fr ?_ (xup_n (by omega))) (xup_n (by omega))) (xup_n (by omega)); first | assumption)) (by omega) ?_
  refine xs_f 10 r_17_9 rfl ?_
  refine xs_get 13 r_17_10 rfl rfl (by first | assumption | exact xup_s | exact g1 | exact (b7 _ (by omega)).1 | exact (b10 _ (by omega)).1 | (refine (xup_n (by omega)).trans ?_; first | assumption | exact xup_s | exact g1 | exact (b7 _ (by omega)).1 | exact (b10 _ (by omega)).1) | (refine (xup_n (by omega)).trans ((xup_n (by omega)).trans ?_); first | assumption | exact xup_s | exact g1 | exact (b7 _ (by omega)).1 | exact (b10 _ (by omega)).1) | (refine (xup_n (by omega)).trans ((xup_n (by omega)).trans ((xup_n (by omega)).trans ?_)); first | assumption | exact xup_s | exact g1 | exact (b7 _ (by omega)).1 | exact (b10 _ (by omega)).1)) (by rfl) ?_
  refine xs_f 14 r_17_13 rfl ?_
  refine xs_call (lv2 := [(0, _), (1, _), (2, _)]) r_17_14 rfl rfl (by decide) (xcan_0 rfl rfl (by first | assumption | exact xup_s | exact g1 | exact (b7 _ (by omega)).1 | exact (b10 _ (by omega)).1 | (refine (xup_n (by omega)).trans ?_; first | assumption | exact xup_s | exact g1 | exact (b7 _ (by omega)).1 | exact (b10 _ (by omega)).1) | (refine (xup_n (by omega)).trans ((xup_n (by omega)).trans ?_); first | assumption | exact xup_s | exact g1 | exact (b7 _ (by omega)).1 | exact (b10 _ (by omega)).1) | (refine (xup_n (by omega)).trans ((xup_n (by omega)).trans ((xup_n (by omega)).trans ?_)); first | assumption | exact xup_s | exact g1 | exact (b7 _ (by omega)).1 | exact (b10 _ (by omega)).1)) (by rfl)) rfl (c_76 (b10 no hn) (by omega) (fun f1 x1 y1 => ?_))
  refine xK_0 rfl ?_
  refine xs_f 18 r_17_17 rfl ?_
  refine xs_f 19 r_17_18 rfl ?_
  have hB1 := hB.que hn x1 (y1.wd (by omega) (by omega))
  have g1 := hB1.1
  refine xs_get 22 r_17_19 rfl rfl (by first | assumption | exact xup_s | exact g1 | exact (b7 _ (by omega)).1 | exact (b10 _ (by omega)).1 | (refine (xup_n (by omega)).trans ?_; first | assumption | exact xup_s | exact g1 | exact (b7 _ (by omega)).1 | exact (b10 _ (by omega)).1) | (refine (xup_n (by omega)).trans ((xup_n (by omega)).trans ?_); first | assumption | exact xup_s | exact g1 | exact (b7 _ (by omega)).1 | exact (b10 _ (by omega)).1) | (refine (xup_n (by omega)).trans ((xup_n (by omega)).trans ((xup_n (by omega)).trans ?_)); first | assumption | exact xup_s | exact g1 | exact (b7 _ (by omega)).1 | exact (b10 _ (by omega)).1)) (by rfl) ?_
  refine xs_f 23 r_17_22 rfl ?_
  refine xs_f 24 r_17_23 rfl ?_
  refine xs_putC 27 r_17_24 rfl (by first | assumption | exact xup_s | exact g1 | exact (b7 _ (by omega)).1 | exact (b10 _ (by omega)).1 | (refine (xup_n (by omega)).trans ?_; first | assumption | exact xup_s | exact g1 | exact (b7 _ (by omega)).1 | exact (b10 _ (by omega)).1) | (refine (xup_n (by omega)).trans ((xup_n (by omega)).trans ?_); first | assumption | exact xup_s | exact g1 | exact (b7 _ (by omega)).1 | exact (b10 _ (by omega)).1) | (refine (xup_n (by omega)).trans ((xup_n (by omega)).trans ((xup_n (by omega)).trans ?_)); first | assumption | exact xup_s | exact g1 | exact (b7 _ (by omega)).1 | exact (b10 _ (by omega)).1)) (by rfl) (by rfl) (fun f2 x2 y2 => ?_)
  refine xs_f 28 r_17_27 rfl ?_
  refine xs_f 29 r_17_28 rfl ?_
  refine xs_get 32 r_17_29 rfl rfl x2 (by rfl) ?_
  refine xs_f 33 r_17_32 rfl ?_
  refine xs_f 34 r_17_33 rfl ?_
  refine xs_putC 37 r_17_34 rfl x2 (by rfl) (by rfl) (fun f3 x3 y3 => ?_)
  refine xs_f 38 r_17_37 rfl ?_
  refine xs_get 41 r_17_38 rfl rfl x3 (by rfl) ?_
  refine xs_f 42 r_17_41 rfl ?_
  refine xs_f 43 r_17_42 rfl ?_
  refine xs_ret r_17_43 rfl ?_
  exact xq_int (k f3 _ (hB1.obj (x3.trans (by rw [nI_succ]; rfl)) (y2.tr y3) b2n (by omega) b2s) ((y1.wd (by omega) (by omega)).tr ((y2.tr y3).wd (by omega) (by omega)))) (Int32.add_sub_cancel _ _)

theorem l_24 {S : XSc} {d : Nat} {h : XH} {Q : XO → XH → Prop} {b np no : Nat} {nn : Int32} {sc : Nat} {ho : Int32} {TS TH tr : Nat → Int32} {pl : Nat → XPl} {q : Nat → XQu} {s : Nat → Nat} {R : Nat → Nat → Nat} (hB : BdP h.1 b np no nn sc ho TS TH tr pl q s R) (h32 : 32 ≤ b) (h0 : 0 < no) (k : ∀ f, RA f 17 (b + 2) 6 (fun i => b + 27 + 7 * rot s 0 (no - 1) i) → Fr h.1 f (b + 2) (b + 3) → Q (.inl none) (f, h.2)) : ∀ (m : Nat) (i : Nat) (f : Nat → Option XE), no - i < m → (0 < i) → (i ≤ no) → (RA f 17 (b + 2) 6 (fun j => b + 27 + 7 * (if j < i - 1 then s (j + 1) else s j))) → (Fr h.1 f (b + 2) (b + 3)) → xP S d 24 9 [(0, .ref b), (1, .ref (b + 27 + 7 * s 0)), (2, .int (nI i))] [] (f, h.2) Q := by
  intro m
  induction m with
  | zero => intro i f hm; exact absurd hm (Nat.not_lt_zero _)
  | succ m ih =>
    intro i f hm hi hi2 hR hF
    obtain ⟨b1, ⟨b2n, b2o, b2s⟩, b3, b4, b5, b6, b7, b8, b9, b10⟩ := id hB
    have f1 := (hF b (by omega)).trans b1
    refine xs_f 10 r_24_9 rfl ?_
    refine xs_f 11 r_24_10 rfl ?_
    refine xs_get 14 r_24_11 rfl rfl (by first | assumption | exact xup_s | exact f1 | (refine (xup_n (by omega)).trans ?_; first | assumption | exact xup_s | exact f1) | (refine (xup_n (by omega)).trans ((xup_n (by omega)).trans ?_); first | assumption | exact xup_s | exact f1) | (refine (xup_n (by omega)).trans ((xup_n (by omega)).trans ((xup_n (by omega)).trans ?_)); first | assumption | exact xup_s | exact f1)) (by rfl) ?_
    refine xs_if 37 17 r_24_14 rfl (fun hc1 => ?_) (fun hc1 => ?_)
    · have hc1 := (nI_leN rfl rfl (by omega) (by omega)).mp hc1
      refine xs_f 38 r_24_37 rfl ?_
      refine xs_get 41 r_24_38 rfl rfl (by first | assumption | exact xup_s | exact f1 | (refine (xup_n (by omega)).trans ?_; first | assumption | exact xup_s | exact f1) | (refine (xup_n (by omega)).trans ((xup_n (by omega)).trans ?_); first | assumption | exact xup_s | exact f1) | (refine (xup_n (by omega)).trans ((xup_n (by omega)).trans ((xup_n (by omega)).trans ?_)); first | assumption | exact xup_s | exact f1)) (by rfl) ?_
      refine xs_f 42 r_24_41 rfl ?_
      refine xs_get 45 r_24_42 rfl rfl (by first | assumption | exact xup_s | exact f1 | (refine (xup_n (by omega)).trans ?_; first | assumption | exact xup_s | exact f1) | (refine (xup_n (by omega)).trans ((xup_n (by omega)).trans ?_); first | assumption | exact xup_s | exact f1) | (refine (xup_n (by omega)).trans ((xup_n (by omega)).trans ((xup_n (by omega)).trans ?_)); first | assumption | exact xup_s | exact f1)) (by rfl) ?_
      refine xs_f 46 r_24_45 rfl ?_
      refine xs_f 47 r_24_46 rfl ?_
      refine xs_f 48 r_24_47 rfl ?_
      refine xs_astR 49 r_24_48 (fun _ _ => rfl) rfl rfl rfl (j := (no - 1)) (nI_subE rfl (nI_k 1) (by omega)) (by first | assumption | (refine RA.fr ?_ (xup_n (by omega)); first | assumption) | (refine RA.fr (RA.fr ?_ (xup_n (by omega))) (xup_n (by omega)); first | assumption) | (refine RA.fr (RA.fr (RA.fr ?_ (xup_n (by omega))) (xup_n (by omega))) (xup_n (by omega)); first | assumption)) (by omega) ((hF _ (by omega)).trans (b10 0 (by omega)).1) rfl (fun f3 x3 y3 => ?_)
      refine xs_ret r_24_49 rfl ?_
      have e : i = no := by omega
      subst e
      exact k f3 (x3.ex (fun j hj => by
        unfold xw rot
        (try dsimp only)
        by_cases z : j = i - 1
        · rw [if_pos z, if_neg (by omega), if_neg (by omega), if_pos z]
        · rw [if_neg z, if_neg (Nat.not_lt_zero _)]
          by_cases z2 : j < i - 1
          · rw [if_pos z2, if_pos z2]
          · rw [if_neg z2, if_neg z2, if_neg z])) (hF.tr y3)
    · have hc1 := mt (nI_leN rfl rfl (by omega) (by omega)).mpr hc1
      refine xs_f 18 r_24_17 rfl ?_
      refine xs_get 21 r_24_18 rfl rfl (by first | assumption | exact xup_s | exact f1 | (refine (xup_n (by omega)).trans ?_; first | assumption | exact xup_s | exact f1) | (refine (xup_n (by omega)).trans ((xup_n (by omega)).trans ?_); first | assumption | exact xup_s | exact f1) | (refine (xup_n (by omega)).trans ((xup_n (by omega)).trans ((xup_n (by omega)).trans ?_)); first | assumption | exact xup_s | exact f1)) (by rfl) ?_
      refine xs_f 22 r_24_21 rfl ?_
      refine xs_f 23 r_24_22 rfl ?_
      refine xs_f 24 r_24_23 rfl ?_
      refine xs_f 25 r_24_24 rfl ?_
      refine xs_get 28 r_24_25 rfl rfl (by first | assumption | exact xup_s | exact f1 | (refine (xup_n (by omega)).trans ?_; first | assumption | exact xup_s | exact f1) | (refine (xup_n (by omega)).trans ((xup_n (by omega)).trans ?_); first | assumption | exact xup_s | exact f1) | (refine (xup_n (by omega)).trans ((xup_n (by omega)).trans ((xup_n (by omega)).trans ?_)); first | assumption | exact xup_s | exact f1)) (by rfl) ?_
      refine xs_f 29 r_24_28 rfl ?_
      refine xs_aldR 30 r_24_29 (fun _ _ => rfl) rfl rfl rfl (j := i) rfl (by first | assumption | (refine RA.fr ?_ (xup_n (by omega)); first | assumption) | (refine RA.fr (RA.fr ?_ (xup_n (by omega))) (xup_n (by omega)); first | assumption) | (refine RA.fr (RA.fr (RA.fr ?_ (xup_n (by omega))) (xup_n (by omega))) (xup_n (by omega)); first | assumption)) (by omega) ?_
      (try dsimp only)
      rw [show (if i < i - 1 then s (i + 1) else s i) = s i from if_neg (by omega)]
      refine xs_astR 31 r_24_30 (fun _ _ => rfl) rfl rfl rfl (j := (i - 1)) (nI_subE rfl (nI_k 1) (by omega)) (by first | assumption | (refine RA.fr ?_ (xup_n (by omega)); first | assumption) | (refine RA.fr (RA.fr ?_ (xup_n (by omega))) (xup_n (by omega)); first | assumption) | (refine RA.fr (RA.fr (RA.fr ?_ (xup_n (by omega))) (xup_n (by omega))) (xup_n (by omega)); first | assumption)) (by omega) ((hF _ (by omega)).trans (b10 i (by omega)).1) rfl (fun f2 x2 y2 => ?_)
      refine xs_f 34 (lv2 := [(2, _), (0, _), (1, _)]) r_24_31 rfl ?_
      refine xs_f 9 r_24_34 rfl ?_
      exact xP_lv [(0, .ref b), (1, .ref (b + 27 + 7 * s 0)), (2, .int (nI (i + 1)))] rfl ⟨rfl, rfl, (by rw [nI_succ]; rfl), trivial⟩ (ih (i + 1) f2 (by omega) (by omega) (by omega) (x2.ex (fun j hj => by
        unfold xw
        (try dsimp only)
        by_cases z : j = i - 1
        · rw [if_pos z, if_pos (by omega), show j + 1 = i by omega]
        · rw [if_neg z]
          by_cases z2 : j < i - 1
          · rw [if_pos z2, if_pos (by omega)]
          · rw [if_neg z2, if_neg (by omega)])) (hF.tr y2))

theorem c_24 {S : XSc} {d : Nat} {h : XH} {Q : XO → XH → Prop} {b np no : Nat} {nn : Int32} {sc : Nat} {ho : Int32} {TS TH tr : Nat → Int32} {pl : Nat → XPl} {q : Nat → XQu} {s : Nat → Nat} {R : Nat → Nat → Nat} (hB : BdP h.1 b np no nn sc ho TS TH tr pl q s R) (h32 : 32 ≤ b) (h0 : 0 < no) (k : ∀ f, BdP f b np no nn sc ho TS TH tr pl (rot q 0 (no - 1)) (rot s 0 (no - 1)) (rot R 0 (no - 1)) → Fr h.1 f b (b + 69) → Q (.inl none) (f, h.2)) : xP S d 24 0 [(0, .ref b)] [] h Q := by
  obtain ⟨b1, ⟨b2n, b2o, b2s⟩, b3, b4, b5, b6, b7, b8, b9, b10⟩ := id hB
  refine xs_f 1 r_24_0 rfl ?_
  refine xs_get 4 r_24_1 rfl rfl (by first | assumption | exact xup_s | exact (b7 _ (by omega)).1 | exact (b10 _ (by omega)).1 | (refine (xup_n (by omega)).trans ?_; first | assumption | exact xup_s | exact (b7 _ (by omega)).1 | exact (b10 _ (by omega)).1) | (refine (xup_n (by omega)).trans ((xup_n (by omega)).trans ?_); first | assumption | exact xup_s | exact (b7 _ (by omega)).1 | exact (b10 _ (by omega)).1) | (refine (xup_n (by omega)).trans ((xup_n (by omega)).trans ((xup_n (by omega)).trans ?_)); first | assumption | exact xup_s | exact (b7 _ (by omega)).1 | exact (b10 _ (by omega)).1)) (by rfl) ?_
  refine xs_f 5 r_24_4 rfl ?_
  refine xs_aldR 6 r_24_5 (fun _ _ => rfl) rfl rfl rfl (j := 0) (nI_k 0) (by first | assumption | (refine RA.fr ?_ (xup_n (by omega)); first | assumption) | (refine RA.fr (RA.fr ?_ (xup_n (by omega))) (xup_n (by omega)); first | assumption) | (refine RA.fr (RA.fr (RA.fr ?_ (xup_n (by omega))) (xup_n (by omega))) (xup_n (by omega)); first | assumption)) (by omega) ?_
  refine xs_f 7 (lv2 := [(1, _), (0, _)]) r_24_6 rfl ?_
  refine xs_f 8 r_24_7 rfl ?_
  refine xs_f 9 (lv2 := [(2, _), (1, _), (0, _)]) r_24_8 rfl ?_
  exact xP_lv [(0, .ref b), (1, .ref (b + 27 + 7 * s 0)), (2, .int (nI 1))] rfl ⟨rfl, rfl, rfl, trivial⟩ (l_24 hB h32 h0 (fun f1 x1 y1 => k f1 (hB.trn (by omega) (by omega) x1 y1) (y1.wd (by omega) (by omega))) (no + 1) 1 h.1 (by omega) (by omega) (by omega) (b4.ex (fun j hj => by
    (try dsimp only)
    rw [if_neg (by omega)])) Fr.rf)

theorem c_26 {S : XSc} {d : Nat} {h : XH} {Q : XO → XH → Prop} {b np no : Nat} {nn : Int32} {sc : Nat} {ho : Int32} {TS TH tr : Nat → Int32} {pl : Nat → XPl} {q : Nat → XQu} {s : Nat → Nat} {R : Nat → Nat → Nat} (hB : BdP h.1 b np no nn sc ho TS TH tr pl q s R) (h32 : 32 ≤ b) (h0 : 0 < no) (k : ∀ f, BdP f b np no nn sc ho TS TH tr pl (rot q 0 (no - 1)) (rot s 0 (no - 1)) (rot R 0 (no - 1)) → Fr h.1 f b (b + 69) → Q (.inl (some (.int (rot q 0 (no - 1) 0).1))) (f, h.2)) : xP S (d + 1) 26 0 [(0, .ref b)] [] h Q := by
  obtain ⟨b1, ⟨b2n, b2o, b2s⟩, b3, b4, b5, b6, b7, b8, b9, b10⟩ := id hB
  refine xs_f 1 r_26_0 rfl ?_
  refine xs_call (lv2 := [(0, _)]) r_26_1 rfl rfl (by decide) (xcan_0 rfl rfl (by first | assumption | exact xup_s | exact e1 | exact (e10 0 (by omega)).1 | exact (b7 _ (by omega)).1 | exact (b10 _ (by omega)).1 | (refine (xup_n (by omega)).trans ?_; first | assumption | exact xup_s | exact e1 | exact (e10 0 (by omega)).1 | exact (b7 _ (by omega)).1 | exact (b10 _ (by omega)).1) | (refine (xup_n (by omega)).trans ((xup_n (by omega)).trans ?_); first | assumption | exact xup_s | exact e1 | exact (e10 0 (by omega)).1 | exact (b7 _ (by omega)).1 | exact (b10 _ (by omega)).1) | (refine (xup_n (by omega)).trans ((xup_n (by omega)).trans ((xup_n (by omega)).trans ?_)); first | assumption | exact xup_s | exact e1 | exact (e10 0 (by omega)).1 | exact (b7 _ (by omega)).1 | exact (b10 _ (by omega)).1)) (by rfl)) rfl (c_24 hB h32 h0 (fun f1 x1 y1 => ?_))
  refine xK_0 rfl ?_
  obtain ⟨e1, -, -, e4, -, -, -, -, -, e10⟩ := id x1
  refine xs_f 5 r_26_4 rfl ?_
  refine xs_get 8 r_26_5 rfl rfl (by first | assumption | exact xup_s | exact e1 | exact (e10 0 (by omega)).1 | exact (b7 _ (by omega)).1 | exact (b10 _ (by omega)).1 | (refine (xup_n (by omega)).trans ?_; first | assumption | exact xup_s | exact e1 | exact (e10 0 (by omega)).1 | exact (b7 _ (by omega)).1 | exact (b10 _ (by omega)).1) | (refine (xup_n (by omega)).trans ((xup_n (by omega)).trans ?_); first | assumption | exact xup_s | exact e1 | exact (e10 0 (by omega)).1 | exact (b7 _ (by omega)).1 | exact (b10 _ (by omega)).1) | (refine (xup_n (by omega)).trans ((xup_n (by omega)).trans ((xup_n (by omega)).trans ?_)); first | assumption | exact xup_s | exact e1 | exact (e10 0 (by omega)).1 | exact (b7 _ (by omega)).1 | exact (b10 _ (by omega)).1)) (by rfl) ?_
  refine xs_f 9 r_26_8 rfl ?_
  refine xs_aldR 10 r_26_9 (fun _ _ => rfl) rfl rfl rfl (j := 0) (nI_k 0) (by first | assumption | (refine RA.fr ?_ (xup_n (by omega)); first | assumption) | (refine RA.fr (RA.fr ?_ (xup_n (by omega))) (xup_n (by omega)); first | assumption) | (refine RA.fr (RA.fr (RA.fr ?_ (xup_n (by omega))) (xup_n (by omega))) (xup_n (by omega)); first | assumption)) (by omega) ?_
  refine xs_get 13 r_26_10 rfl rfl (by first | assumption | exact xup_s | exact e1 | exact (e10 0 (by omega)).1 | exact (b7 _ (by omega)).1 | exact (b10 _ (by omega)).1 | (refine (xup_n (by omega)).trans ?_; first | assumption | exact xup_s | exact e1 | exact (e10 0 (by omega)).1 | exact (b7 _ (by omega)).1 | exact (b10 _ (by omega)).1) | (refine (xup_n (by omega)).trans ((xup_n (by omega)).trans ?_); first | assumption | exact xup_s | exact e1 | exact (e10 0 (by omega)).1 | exact (b7 _ (by omega)).1 | exact (b10 _ (by omega)).1) | (refine (xup_n (by omega)).trans ((xup_n (by omega)).trans ((xup_n (by omega)).trans ?_)); first | assumption | exact xup_s | exact e1 | exact (e10 0 (by omega)).1 | exact (b7 _ (by omega)).1 | exact (b10 _ (by omega)).1)) (by rfl) ?_
  refine xs_ret r_26_13 rfl ?_
  exact k f1 x1 y1

def leavF (np : Nat) (pl : Nat → XPl) (p : Int32) : Nat := if 0 ≤ p ∧ p < nI np then (bif (pl p.toNatClampNeg).2.2.1 then 5 else 0) else 1
theorem bI_n0 {b : Bool} (h : ¬ bI b = 0) : b = true := by cases b with
  | false => exact absurd rfl h
  | true => rfl
theorem c_27 {S : XSc} {d : Nat} {h : XH} {Q : XO → XH → Prop} {b np no : Nat} {nn : Int32} {sc : Nat} {ho : Int32} {TS TH tr : Nat → Int32} {pl : Nat → XPl} {q : Nat → XQu} {s : Nat → Nat} {R : Nat → Nat → Nat} (hB : BdP h.1 b np no nn sc ho TS TH tr pl q s R) (h32 : 32 ≤ b) {p : Int32} (k : Q (.inl (some (.ref (leavF np pl p)))) h) : xP S (d + 1) 27 0 [(0, .ref b), (1, .int p)] [] h Q := by
  obtain ⟨b1, ⟨b2n, b2o, b2s⟩, b3, b4, b5, b6, b7, b8, b9, b10⟩ := id hB
  refine xs_f 1 r_27_0 rfl ?_
  refine xs_f 2 r_27_1 rfl ?_
  refine xs_call (lv2 := [(0, _), (1, _)]) r_27_2 rfl rfl (by decide) (xcan_0 rfl rfl (by first | assumption | exact xup_s | exact (b7 _ (by omega)).1 | exact (b10 _ (by omega)).1 | (refine (xup_n (by omega)).trans ?_; first | assumption | exact xup_s | exact (b7 _ (by omega)).1 | exact (b10 _ (by omega)).1) | (refine (xup_n (by omega)).trans ((xup_n (by omega)).trans ?_); first | assumption | exact xup_s | exact (b7 _ (by omega)).1 | exact (b10 _ (by omega)).1) | (refine (xup_n (by omega)).trans ((xup_n (by omega)).trans ((xup_n (by omega)).trans ?_)); first | assumption | exact xup_s | exact (b7 _ (by omega)).1 | exact (b10 _ (by omega)).1)) (by rfl)) rfl (c_12 hB h32 (fun hp => ?_) (fun hp => ?_))
  · refine xK_v rfl ?_
    refine xs_f 12 r_27_5 rfl ?_
    obtain ⟨i, hi, rfl⟩ := isPl_nI hp b2n
    have hcl : (nI i).toNatClampNeg = i := nI_clamp (by omega)
    refine xs_f 13 r_27_12 rfl ?_
    refine xs_get 16 r_27_13 rfl rfl (by first | assumption | exact xup_s | exact (b7 _ (by omega)).1 | exact (b10 _ (by omega)).1 | (refine (xup_n (by omega)).trans ?_; first | assumption | exact xup_s | exact (b7 _ (by omega)).1 | exact (b10 _ (by omega)).1) | (refine (xup_n (by omega)).trans ((xup_n (by omega)).trans ?_); first | assumption | exact xup_s | exact (b7 _ (by omega)).1 | exact (b10 _ (by omega)).1) | (refine (xup_n (by omega)).trans ((xup_n (by omega)).trans ((xup_n (by omega)).trans ?_)); first | assumption | exact xup_s | exact (b7 _ (by omega)).1 | exact (b10 _ (by omega)).1)) (by rfl) ?_
    refine xs_f 17 r_27_16 rfl ?_
    refine xs_aldR 18 r_27_17 (fun _ _ => rfl) rfl rfl rfl (j := i) rfl (by first | assumption | (refine RA.fr ?_ (xup_n (by omega)); first | assumption) | (refine RA.fr (RA.fr ?_ (xup_n (by omega))) (xup_n (by omega)); first | assumption) | (refine RA.fr (RA.fr (RA.fr ?_ (xup_n (by omega))) (xup_n (by omega))) (xup_n (by omega)); first | assumption)) (by omega) ?_
    refine xs_get 21 r_27_18 rfl rfl (by first | assumption | exact xup_s | exact (b7 _ (by omega)).1 | exact (b10 _ (by omega)).1 | (refine (xup_n (by omega)).trans ?_; first | assumption | exact xup_s | exact (b7 _ (by omega)).1 | exact (b10 _ (by omega)).1) | (refine (xup_n (by omega)).trans ((xup_n (by omega)).trans ?_); first | assumption | exact xup_s | exact (b7 _ (by omega)).1 | exact (b10 _ (by omega)).1) | (refine (xup_n (by omega)).trans ((xup_n (by omega)).trans ((xup_n (by omega)).trans ?_)); first | assumption | exact xup_s | exact (b7 _ (by omega)).1 | exact (b10 _ (by omega)).1)) (by rfl) ?_
    refine xs_if 30 24 r_27_21 rfl (fun ho => ?_) (fun ho => ?_)
    · refine xs_gst 33 r_27_30 rfl ?_
      refine xs_ret r_27_33 rfl ?_
      first | exact xq_ref k (if_neg hp) | exact xq_ref k ((if_pos hp).trans (by rw [hcl, bI_n0 ho]; rfl)) | exact xq_ref k ((if_pos hp).trans (by rw [hcl, (bI_0 _).mp ho]; rfl))
    · refine xs_gst 27 r_27_24 rfl ?_
      refine xs_f 33 r_27_27 rfl ?_
      refine xs_ret r_27_33 rfl ?_
      first | exact xq_ref k (if_neg hp) | exact xq_ref k ((if_pos hp).trans (by rw [hcl, bI_n0 ho]; rfl)) | exact xq_ref k ((if_pos hp).trans (by rw [hcl, (bI_0 _).mp ho]; rfl))
  · refine xK_v rfl ?_
    refine xs_f 8 r_27_5 rfl ?_
    refine xs_gst 11 r_27_8 rfl ?_
    refine xs_ret r_27_11 rfl ?_
    first | exact xq_ref k (if_neg hp) | exact xq_ref k ((if_pos hp).trans (by rw [hcl, bI_n0 ho]; rfl)) | exact xq_ref k ((if_pos hp).trans (by rw [hcl, (bI_0 _).mp ho]; rfl))

