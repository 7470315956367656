/-! the reference: its own object and rows; what its row of 288 shows -/
abbrev mO (a : Nat) (ch sv ty ea fa ol th sp wr : Int32) : List Value := [.ref (a + 1), .ref (a + 2), .ref (a + 3), .int ch, .ref (a + 4), .int sv, .ref (a + 5), .int ty, .int ea, .int fa, .ref (a + 6), .int ol, .int th, .ref (a + 7), .int sp, .int wr, .ref (a + 8)]
def gE (G : Nat → Int32) (i : Nat) (r : Nat) : XEst := (G (138 + 25 * i + 5 * r + 0), (G (138 + 25 * i + 5 * r + 1), (G (138 + 25 * i + 5 * r + 2), (G (138 + 25 * i + 5 * r + 3), G (138 + 25 * i + 5 * r + 4)))))
def gQ (G : Nat → Int32) (mn : Nat → Nat) (i : Nat) : XQu := (G (120 + i), (G (126 + i), (mn i, gE G i)))
/-- a row of nine, as the class keeps it -/
def gB (G : Nat → Int32) (at_ : Nat) (j : Nat) : Int32 := if j = 0 then 0 else G (at_ + j - 1)
def gP (G : Nat → Int32) (i : Nat) : XPl := (G (10 + i), (G (20 + i), (decide (G (15 + i) = 1), (gB G (30 + 9 * i), gB G (75 + 9 * i)))))
/-- players, open questions, how many estimates each -/
def WG (G : Nat → Int32) (np no : Nat) (mn : Nat → Nat) : Prop := (G 0 = nI np ∧ np ≤ 5) ∧ (G 1 = nI no ∧ no ≤ 6) ∧ ∀ i, i < 6 → G (132 + i) = nI (mn i) ∧ mn i ≤ 5
abbrev XR : Type := Nat × Int32
theorem leP {n : Nat} (hn : n ≤ 100000) (x : Int32) : x ≤ nI n - 1 ↔ x < nI n := by
  have e : (nI n - 1).toInt = (n : Int) - 1 := by
    rcases Nat.eq_zero_or_pos n with z | z
    · subst z; rfl
    · rw [nI_subE (x := nI n) (y := 1) (a := n) (b := 1) rfl rfl z, nI_toInt (by omega)]
      omega
  rw [Int32.le_iff_toInt_le, Int32.lt_iff_toInt_lt, e, nI_toInt (by omega)]
  omega
theorem m_150 {S : XSc} {d : Nat} {h : XH} {Q : XO → XH → Prop} {v lo hi : Int32} (k1 : lo ≤ v ∧ v ≤ hi → Q (.inl (some (.int 1))) h) (k0 : ¬ (lo ≤ v ∧ v ≤ hi) → Q (.inl (some (.int 0))) h) : xP S d 150 0 [(0, .int v), (1, .int lo), (2, .int hi)] [] h Q := by
  refine xs_f 1 r_150_0 rfl ?_
  refine xs_f 2 r_150_1 rfl ?_
  refine xs_if 14 5 r_150_2 rfl (fun hc1 => ?_) (fun hc1 => ?_)
  · refine xs_f 15 r_150_14 rfl ?_
    refine xs_ret r_150_15 rfl ?_
    first | exact k1 ⟨Int32.not_lt.mp hc1, Int32.not_lt.mp hc2⟩ | exact k0 (fun z => absurd hc1 (Int32.not_lt.mpr z.1)) | exact k0 (fun z => absurd hc2 (Int32.not_lt.mpr z.2))
  · refine xs_f 6 r_150_5 rfl ?_
    refine xs_f 7 r_150_6 rfl ?_
    refine xs_if 14 10 r_150_7 rfl (fun hc2 => ?_) (fun hc2 => ?_)
    · refine xs_f 15 r_150_14 rfl ?_
      refine xs_ret r_150_15 rfl ?_
      first | exact k1 ⟨Int32.not_lt.mp hc1, Int32.not_lt.mp hc2⟩ | exact k0 (fun z => absurd hc1 (Int32.not_lt.mpr z.1)) | exact k0 (fun z => absurd hc2 (Int32.not_lt.mpr z.2))
    · refine xs_f 11 r_150_10 rfl ?_
      refine xs_f 15 r_150_11 rfl ?_
      refine xs_ret r_150_15 rfl ?_
      first | exact k1 ⟨Int32.not_lt.mp hc1, Int32.not_lt.mp hc2⟩ | exact k0 (fun z => absurd hc1 (Int32.not_lt.mpr z.1)) | exact k0 (fun z => absurd hc2 (Int32.not_lt.mpr z.2))

theorem m_157 {S : XSc} {d : Nat} {h : XH} {Q : XO → XH → Prop} {a : Nat} {G : Nat → Int32} {np no : Nat} {mn : Nat → Nat} {ch sv ty ea fa ol th sp wr : Int32} (o0 : h.1 a = some (.inr (9, mO a ch sv ty ea fa ol th sp wr))) (g0 : IA h.1 0 (a + 1) 288 G) (hG : WG G np no mn) (h32 : 32 ≤ a) {p : Int32} (k1 : isPl np p → Q (.inl (some (.int 1))) h) (k0 : ¬ isPl np p → Q (.inl (some (.int 0))) h) : xP S (d + 1) 157 0 [(0, .ref a), (1, .int p)] [] h Q := by
  refine xs_f 1 r_157_0 rfl ?_
  refine xs_f 2 r_157_1 rfl ?_
  refine xs_f 3 r_157_2 rfl ?_
  refine xs_get 6 r_157_3 rfl rfl (by first | assumption | exact o0) (by rfl) ?_
  refine xs_f 7 r_157_6 rfl ?_
  refine xs_aldI 8 r_157_7 (fun _ _ => rfl) rfl rfl rfl (j := 0) (nI_k 0) g0 (by omega) ?_
  first | rw [hG.1.1] | skip
  refine xs_f 9 r_157_8 rfl ?_
  refine xs_f 10 r_157_9 rfl ?_
  refine xs_call (lv2 := [(0, _), (1, _), (2, _)]) r_157_10 rfl rfl (by decide) (xcan_1 rfl) rfl (m_150 (fun hb => ?_) (fun hb => ?_))
  · refine xK_v rfl ?_
    refine xs_ret r_157_13 rfl ?_
    first | exact k1 ⟨hb.1, (leP (by have := hG.1.2; omega) _).mp hb.2⟩ | exact k0 (fun z => hb ⟨z.1, (leP (by have := hG.1.2; omega) _).mpr z.2⟩)
  · refine xK_v rfl ?_
    refine xs_ret r_157_13 rfl ?_
    first | exact k1 ⟨hb.1, (leP (by have := hG.1.2; omega) _).mp hb.2⟩ | exact k0 (fun z => hb ⟨z.1, (leP (by have := hG.1.2; omega) _).mpr z.2⟩)

theorem ml_158 {S : XSc} {d : Nat} {h : XH} {Q : XO → XH → Prop} {a : Nat} {G : Nat → Int32} {np no : Nat} {mn : Nat → Nat} {ch sv ty ea fa ol th sp wr : Int32} (o0 : h.1 a = some (.inr (9, mO a ch sv ty ea fa ol th sp wr))) (g0 : IA h.1 0 (a + 1) 288 G) (hG : WG G np no mn) (h32 : 32 ≤ a) {n : Int32} (k1 : pla (gQ G mn) no n < no → Q (.inl (some (.int (nI (pla (gQ G mn) no n))))) h) (k0 : pla (gQ G mn) no n = no → Q (.inl (some (.int (-1)))) h) : ∀ (m : Nat) (i : Nat), no - i < m → (i ≤ no) → (∀ j, j < i → G (120 + j) ≠ n) → xP S d 158 2 [(0, .ref a), (1, .int n), (2, .int (nI i))] [] h Q := by
  intro m
  induction m with
  | zero => intro i hm; exact absurd hm (Nat.not_lt_zero _)
  | succ m ih =>
    intro i hm hi hj
    have no6 := hG.2.1.2
    refine xs_f 3 r_158_2 rfl ?_
    refine xs_f 4 r_158_3 rfl ?_
    refine xs_get 7 r_158_4 rfl rfl (by first | assumption | exact o0) (by rfl) ?_
    refine xs_f 8 r_158_7 rfl ?_
    refine xs_aldI 9 r_158_8 (fun _ _ => rfl) rfl rfl rfl (j := 1) (nI_k 1) g0 (by omega) ?_
    first | rw [hG.2.1.1] | skip
    refine xs_if 33 12 r_158_9 rfl (fun hc1 => ?_) (fun hc1 => ?_)
    · have hc1 := (nI_leN rfl rfl (by omega) (by omega)).mp hc1
      refine xs_f 34 r_158_33 rfl ?_
      refine xs_ret r_158_34 rfl ?_
      exact k0 (fnd_no (fun j hjm => decide_eq_false (hj j (by omega))))
    · have hc1 := mt (nI_leN rfl rfl (by omega) (by omega)).mpr hc1
      refine xs_f 13 r_158_12 rfl ?_
      refine xs_get 16 r_158_13 rfl rfl (by first | assumption | exact o0) (by rfl) ?_
      refine xs_f 18 r_158_16 rfl ?_
      refine xs_f 19 r_158_18 rfl ?_
      refine xs_f 20 r_158_19 rfl ?_
      refine xs_aldI 21 r_158_20 (fun _ _ => rfl) rfl rfl rfl (j := (120 + i)) (nI_addE (nI_k 120) rfl) g0 (by omega) ?_
      refine xs_f 22 r_158_21 rfl ?_
      refine xs_if 25 27 r_158_22 rfl (fun he => ?_) (fun he => ?_)
      · refine xs_f 26 r_158_25 rfl ?_
        refine xs_ret r_158_26 rfl ?_
        have e : pla (gQ G mn) no n = i := fnd_at (by omega) (decide_eq_true he) (fun j hj2 => decide_eq_false (hj j hj2))
        rw [← e]
        exact k1 (by omega)
      · refine xs_f 30 (lv2 := [(2, _), (0, _), (1, _)]) r_158_27 rfl ?_
        refine xs_f 2 r_158_30 rfl ?_
        exact xP_lv [(0, .ref a), (1, .int n), (2, .int (nI (i + 1)))] rfl ⟨rfl, rfl, (by rw [nI_succ]; rfl), trivial⟩ (ih (i + 1) (by omega) (by omega) (fun j hj2 => by
          rcases Nat.lt_or_ge j i with z | z
          · exact hj j z
          · rw [show j = i by omega]; exact he))

theorem m_158 {S : XSc} {d : Nat} {h : XH} {Q : XO → XH → Prop} {a : Nat} {G : Nat → Int32} {np no : Nat} {mn : Nat → Nat} {ch sv ty ea fa ol th sp wr : Int32} (o0 : h.1 a = some (.inr (9, mO a ch sv ty ea fa ol th sp wr))) (g0 : IA h.1 0 (a + 1) 288 G) (hG : WG G np no mn) (h32 : 32 ≤ a)  {n : Int32} (k1 : pla (gQ G mn) no n < no → Q (.inl (some (.int (nI (pla (gQ G mn) no n))))) h) (k0 : pla (gQ G mn) no n = no → Q (.inl (some (.int (-1)))) h) : xP S d 158 0 [(0, .ref a), (1, .int n)] [] h Q := by
  refine xs_f 1 r_158_0 rfl ?_
  refine xs_f 2 (lv2 := [(2, _), (0, _), (1, _)]) r_158_1 rfl ?_
  exact xP_lv [(0, .ref a), (1, .int n), (2, .int (nI 0))] rfl ⟨rfl, rfl, rfl, trivial⟩ (ml_158 o0 g0 hG h32 k1 k0 (no + 1) 0 (by omega) (by omega) (fun j hj => absurd hj (Nat.not_lt_zero _)))

theorem ml_160 {S : XSc} {d : Nat} {h : XH} {Q : XO → XH → Prop} {a : Nat} {G : Nat → Int32} {np no : Nat} {mn : Nat → Nat} {ch sv ty ea fa ol th sp wr : Int32} (o0 : h.1 a = some (.inr (9, mO a ch sv ty ea fa ol th sp wr))) (g0 : IA h.1 0 (a + 1) 288 G) (hG : WG G np no mn) (h32 : 32 ≤ a) {i : Nat} (hi6 : i < 6) {p : Int32} (k1 : rnk (gE G i) (mn i) p < mn i → Q (.inl (some (.int (nI (rnk (gE G i) (mn i) p))))) h) (k0 : rnk (gE G i) (mn i) p = mn i → Q (.inl (some (.int (-1)))) h) : ∀ (m : Nat) (r : Nat), mn i - r < m → (r ≤ mn i) → (∀ j, j < r → (gE G i j).1 ≠ p) → xP S (d + 1) 160 2 [(0, .ref a), (1, .int (nI i)), (2, .int p), (3, .int (nI r))] [] h Q := by
  intro m
  induction m with
  | zero => intro r hm; exact absurd hm (Nat.not_lt_zero _)
  | succ m ih =>
    intro r hm hr hj
    have mn5 := (hG.2.2 i hi6).2
    refine xs_f 3 r_160_2 rfl ?_
    refine xs_f 4 r_160_3 rfl ?_
    refine xs_get 7 r_160_4 rfl rfl (by first | assumption | exact o0) (by rfl) ?_
    refine xs_f 10 r_160_7 rfl ?_
    refine xs_f 11 r_160_10 rfl ?_
    refine xs_f 12 r_160_11 rfl ?_
    refine xs_aldI 13 r_160_12 (fun _ _ => rfl) rfl rfl rfl (j := (132 + i)) (nI_addE (nI_k 132) rfl) g0 (by omega) ?_
    rw [(hG.2.2 i (by omega)).1]
    refine xs_if 40 16 r_160_13 rfl (fun hc1 => ?_) (fun hc1 => ?_)
    · have hc1 := (nI_leN rfl rfl (by omega) (by omega)).mp hc1
      refine xs_f 41 r_160_40 rfl ?_
      refine xs_ret r_160_41 rfl ?_
      exact k0 (fnd_no (fun j hjm => decide_eq_false (hj j (by omega))))
    · have hc1 := mt (nI_leN rfl rfl (by omega) (by omega)).mpr hc1
      refine xs_f 17 r_160_16 rfl ?_
      refine xs_get 20 r_160_17 rfl rfl (by first | assumption | exact o0) (by rfl) ?_
      refine xs_f 21 r_160_20 rfl ?_
      refine xs_f 22 r_160_21 rfl ?_
      refine xs_call (lv2 := [(0, _), (1, _)]) r_160_22 rfl rfl (by decide) (xcan_1 rfl) rfl ?_
      refine xs_f 3 r_159_0 rfl ?_
      refine xs_f 5 r_159_3 rfl ?_
      refine xs_f 6 r_159_5 rfl ?_
      refine xs_f 7 r_159_6 rfl ?_
      refine xs_f 8 r_159_7 rfl ?_
      refine xs_f 9 r_159_8 rfl ?_
      refine xs_f 10 r_159_9 rfl ?_
      refine xs_f 11 r_159_10 rfl ?_
      refine xs_f 12 r_159_11 rfl ?_
      refine xs_ret r_159_12 rfl ?_
      refine xK_v rfl ?_
      refine xs_f 26 r_160_25 rfl ?_
      refine xs_f 27 r_160_26 rfl ?_
      refine xs_aldI 28 r_160_27 (fun _ _ => rfl) rfl rfl rfl (j := (((138 + (25 * i)) + (5 * r)) + 0)) (nI_addE (nI_addE (nI_addE (nI_k 138) (nI_mulE (nI_k 25) rfl)) (nI_mulE (nI_k 5) rfl)) (nI_k 0)) g0 (by omega) ?_
      refine xs_f 29 r_160_28 rfl ?_
      refine xs_if 32 34 r_160_29 rfl (fun he => ?_) (fun he => ?_)
      · refine xs_f 33 r_160_32 rfl ?_
        refine xs_ret r_160_33 rfl ?_
        have e : rnk (gE G i) (mn i) p = r := fnd_at (by omega) (decide_eq_true he) (fun j hj2 => decide_eq_false (hj j hj2))
        rw [← e]
        exact k1 (by omega)
      · refine xs_f 37 (lv2 := [(3, _), (0, _), (1, _), (2, _)]) r_160_34 rfl ?_
        refine xs_f 2 r_160_37 rfl ?_
        exact xP_lv [(0, .ref a), (1, .int (nI i)), (2, .int p), (3, .int (nI (r + 1)))] rfl ⟨rfl, rfl, rfl, (by rw [nI_succ]; rfl), trivial⟩ (ih (r + 1) (by omega) (by omega) (fun j hj2 => by
          rcases Nat.lt_or_ge j r with z | z
          · exact hj j z
          · rw [show j = r by omega]; exact he))

theorem m_160 {S : XSc} {d : Nat} {h : XH} {Q : XO → XH → Prop} {a : Nat} {G : Nat → Int32} {np no : Nat} {mn : Nat → Nat} {ch sv ty ea fa ol th sp wr : Int32} (o0 : h.1 a = some (.inr (9, mO a ch sv ty ea fa ol th sp wr))) (g0 : IA h.1 0 (a + 1) 288 G) (hG : WG G np no mn) (h32 : 32 ≤ a)  {i : Nat} (hi6 : i < 6) {p : Int32} (k1 : rnk (gE G i) (mn i) p < mn i → Q (.inl (some (.int (nI (rnk (gE G i) (mn i) p))))) h) (k0 : rnk (gE G i) (mn i) p = mn i → Q (.inl (some (.int (-1)))) h) : xP S (d + 1) 160 0 [(0, .ref a), (1, .int (nI i)), (2, .int p)] [] h Q := by
  refine xs_f 1 r_160_0 rfl ?_
  refine xs_f 2 (lv2 := [(3, _), (0, _), (1, _), (2, _)]) r_160_1 rfl ?_
  exact xP_lv [(0, .ref a), (1, .int (nI i)), (2, .int p), (3, .int (nI 0))] rfl ⟨rfl, rfl, rfl, rfl, trivial⟩ (ml_160 o0 g0 hG h32 hi6 k1 k0 (mn i + 1) 0 (by omega) (by omega) (fun j hj => absurd hj (Nat.not_lt_zero _)))

theorem ml_198 {S : XSc} {d : Nat} {h : XH} {Q : XO → XH → Prop} {a : Nat} {G : Nat → Int32} {np no : Nat} {mn : Nat → Nat} {ch sv ty ea fa ol th sp wr : Int32} (o0 : h.1 a = some (.inr (9, mO a ch sv ty ea fa ol th sp wr))) (g0 : IA h.1 0 (a + 1) 288 G) (hG : WG G np no mn) (h32 : 32 ≤ a) {i : Nat} (hi6 : i < 6) {v : Int32} (k : Q (.inl (some (.int (nI (xcov (gE G i) v (mn i)))))) h) : ∀ (m : Nat) (r : Nat), mn i - r < m → (r ≤ mn i) → xP S (d + 1) 198 5 [(0, .ref a), (1, .int (nI i)), (2, .int v), (3, .int (nI (xcov (gE G i) v r))), (4, .int (nI r))] [] h Q := by
  intro m
  induction m with
  | zero => intro r hm; exact absurd hm (Nat.not_lt_zero _)
  | succ m ih =>
    intro r hm hr
    have mn5 := (hG.2.2 i hi6).2
    have xcl := xcov_le (gE G i) v r
    refine xs_f 7 r_198_5 rfl ?_
    refine xs_f 8 r_198_7 rfl ?_
    refine xs_get 11 r_198_8 rfl rfl (by first | assumption | exact o0) (by rfl) ?_
    refine xs_f 14 r_198_11 rfl ?_
    refine xs_f 15 r_198_14 rfl ?_
    refine xs_f 16 r_198_15 rfl ?_
    refine xs_aldI 17 r_198_16 (fun _ _ => rfl) rfl rfl rfl (j := (132 + i)) (nI_addE (nI_k 132) rfl) g0 (by omega) ?_
    rw [(hG.2.2 i (by omega)).1]
    refine xs_if 67 20 r_198_17 rfl (fun hc1 => ?_) (fun hc1 => ?_)
    · have hc1 := (nI_leN rfl rfl (by omega) (by omega)).mp hc1
      refine xs_f 68 r_198_67 rfl ?_
      refine xs_ret r_198_68 rfl ?_
      have e : r = mn i := by omega
      subst e
      exact k
    · have hc1 := mt (nI_leN rfl rfl (by omega) (by omega)).mpr hc1
      refine xs_f 21 r_198_20 rfl ?_
      refine xs_f 22 r_198_21 rfl ?_
      refine xs_f 23 r_198_22 rfl ?_
      refine xs_get 26 r_198_23 rfl rfl (by first | assumption | exact o0) (by rfl) ?_
      refine xs_f 27 r_198_26 rfl ?_
      refine xs_f 29 r_198_27 rfl ?_
      refine xs_call (lv2 := [(0, _), (1, _)]) r_198_29 rfl rfl (by decide) (xcan_1 rfl) rfl ?_
      refine xs_f 3 r_159_0 rfl ?_
      refine xs_f 5 r_159_3 rfl ?_
      refine xs_f 6 r_159_5 rfl ?_
      refine xs_f 7 r_159_6 rfl ?_
      refine xs_f 8 r_159_7 rfl ?_
      refine xs_f 9 r_159_8 rfl ?_
      refine xs_f 10 r_159_9 rfl ?_
      refine xs_f 11 r_159_10 rfl ?_
      refine xs_f 12 r_159_11 rfl ?_
      refine xs_ret r_159_12 rfl ?_
      refine xK_v rfl ?_
      refine xs_f 33 r_198_32 rfl ?_
      refine xs_f 34 r_198_33 rfl ?_
      refine xs_aldI 35 r_198_34 (fun _ _ => rfl) rfl rfl rfl (j := (((138 + (25 * i)) + (5 * r)) + 1)) (nI_addE (nI_addE (nI_addE (nI_k 138) (nI_mulE (nI_k 25) rfl)) (nI_mulE (nI_k 5) rfl)) (nI_k 1)) g0 (by omega) ?_
      refine xs_f 36 r_198_35 rfl ?_
      refine xs_get 39 r_198_36 rfl rfl (by first | assumption | exact o0) (by rfl) ?_
      refine xs_f 40 r_198_39 rfl ?_
      refine xs_f 42 r_198_40 rfl ?_
      refine xs_call (lv2 := [(0, _), (1, _)]) r_198_42 rfl rfl (by decide) (xcan_1 rfl) rfl ?_
      refine xs_f 3 r_159_0 rfl ?_
      refine xs_f 5 r_159_3 rfl ?_
      refine xs_f 6 r_159_5 rfl ?_
      refine xs_f 7 r_159_6 rfl ?_
      refine xs_f 8 r_159_7 rfl ?_
      refine xs_f 9 r_159_8 rfl ?_
      refine xs_f 10 r_159_9 rfl ?_
      refine xs_f 11 r_159_10 rfl ?_
      refine xs_f 12 r_159_11 rfl ?_
      refine xs_ret r_159_12 rfl ?_
      refine xK_v rfl ?_
      refine xs_f 46 r_198_45 rfl ?_
      refine xs_f 47 r_198_46 rfl ?_
      refine xs_aldI 48 r_198_47 (fun _ _ => rfl) rfl rfl rfl (j := (((138 + (25 * i)) + (5 * r)) + 2)) (nI_addE (nI_addE (nI_addE (nI_k 138) (nI_mulE (nI_k 25) rfl)) (nI_mulE (nI_k 5) rfl)) (nI_k 2)) g0 (by omega) ?_
      refine xs_call (lv2 := [(0, _), (1, _), (2, _)]) r_198_48 rfl rfl (by decide) (xcan_1 rfl) rfl (m_150 (fun hb => ?_) (fun hb => ?_))
      · refine xK_v rfl ?_
        refine xs_f 54 r_198_51 rfl ?_
        refine xs_f 55 r_198_54 rfl ?_
        refine xs_f 59 r_198_55 rfl ?_
        refine xs_f 60 r_198_59 rfl ?_
        refine xs_f 61 (lv2 := [(3, _), (0, _), (1, _), (2, _), (4, _)]) r_198_60 rfl ?_
        refine xs_f 64 (lv2 := [(4, _), (3, _), (0, _), (1, _), (2, _)]) r_198_61 rfl ?_
        refine xs_f 5 r_198_64 rfl ?_
        first
          | exact xP_lv [(0, .ref a), (1, .int (nI i)), (2, .int v), (3, .int (nI (xcov (gE G i) v (r + 1)))), (4, .int (nI (r + 1)))] rfl ⟨rfl, rfl, rfl, (by rw [show xcov (gE G i) v (r + 1) = xcov (gE G i) v r + 1 from if_pos hb, nI_succ]; rfl), (by rw [nI_succ]; rfl), trivial⟩ (ih (r + 1) (by omega) (by omega))
          | exact xP_lv [(0, .ref a), (1, .int (nI i)), (2, .int v), (3, .int (nI (xcov (gE G i) v (r + 1)))), (4, .int (nI (r + 1)))] rfl ⟨rfl, rfl, rfl, (by rw [show xcov (gE G i) v (r + 1) = xcov (gE G i) v r from if_neg hb]; exact congrArg (fun z => some (Value.int z)) (Int32.add_zero _)), (by rw [nI_succ]; rfl), trivial⟩ (ih (r + 1) (by omega) (by omega))
      · refine xK_v rfl ?_
        refine xs_f 58 r_198_51 rfl ?_
        refine xs_f 59 r_198_58 rfl ?_
        refine xs_f 60 r_198_59 rfl ?_
        refine xs_f 61 (lv2 := [(3, _), (0, _), (1, _), (2, _), (4, _)]) r_198_60 rfl ?_
        refine xs_f 64 (lv2 := [(4, _), (3, _), (0, _), (1, _), (2, _)]) r_198_61 rfl ?_
        refine xs_f 5 r_198_64 rfl ?_
        first
          | exact xP_lv [(0, .ref a), (1, .int (nI i)), (2, .int v), (3, .int (nI (xcov (gE G i) v (r + 1)))), (4, .int (nI (r + 1)))] rfl ⟨rfl, rfl, rfl, (by rw [show xcov (gE G i) v (r + 1) = xcov (gE G i) v r + 1 from if_pos hb, nI_succ]; rfl), (by rw [nI_succ]; rfl), trivial⟩ (ih (r + 1) (by omega) (by omega))
          | exact xP_lv [(0, .ref a), (1, .int (nI i)), (2, .int v), (3, .int (nI (xcov (gE G i) v (r + 1)))), (4, .int (nI (r + 1)))] rfl ⟨rfl, rfl, rfl, (by rw [show xcov (gE G i) v (r + 1) = xcov (gE G i) v r from if_neg hb]; exact congrArg (fun z => some (Value.int z)) (Int32.add_zero _)), (by rw [nI_succ]; rfl), trivial⟩ (ih (r + 1) (by omega) (by omega))

theorem m_198 {S : XSc} {d : Nat} {h : XH} {Q : XO → XH → Prop} {a : Nat} {G : Nat → Int32} {np no : Nat} {mn : Nat → Nat} {ch sv ty ea fa ol th sp wr : Int32} (o0 : h.1 a = some (.inr (9, mO a ch sv ty ea fa ol th sp wr))) (g0 : IA h.1 0 (a + 1) 288 G) (hG : WG G np no mn) (h32 : 32 ≤ a)  {i : Nat} (hi6 : i < 6) {v : Int32} (k : Q (.inl (some (.int (nI (xcov (gE G i) v (mn i)))))) h) : xP S (d + 1) 198 0 [(0, .ref a), (1, .int (nI i)), (2, .int v)] [] h Q := by
  refine xs_f 1 r_198_0 rfl ?_
  refine xs_f 2 (lv2 := [(3, _), (0, _), (1, _), (2, _)]) r_198_1 rfl ?_
  refine xs_f 3 r_198_2 rfl ?_
  refine xs_f 5 (lv2 := [(4, _), (3, _), (0, _), (1, _), (2, _)]) r_198_3 rfl ?_
  exact xP_lv [(0, .ref a), (1, .int (nI i)), (2, .int v), (3, .int (nI (xcov (gE G i) v 0))), (4, .int (nI 0))] rfl ⟨rfl, rfl, rfl, rfl, rfl, trivial⟩ (ml_198 o0 g0 hG h32 hi6 k (mn i + 1) 0 (by omega) (by omega))

theorem ml_205 {S : XSc} {d : Nat} {h : XH} {Q : XO → XH → Prop} {a : Nat} {G : Nat → Int32} {np no : Nat} {mn : Nat → Nat} {ch sv ty ea fa ol th sp wr : Int32} (o0 : h.1 a = some (.inr (9, mO a ch sv ty ea fa ol th sp wr))) (g0 : IA h.1 0 (a + 1) 288 G) (hG : WG G np no mn) (h32 : 32 ≤ a) {z i : Nat} (hz : z + 9 * i + 9 ≤ 288) (k : Q (.inl (some (.int (xsum (fun j => G (z + 9 * i + j)) 9)))) h) : ∀ (m : Nat) (r : Nat), 9 - r < m → (r ≤ 9) → xP S d 205 5 [(0, .ref a), (1, .int (nI z)), (2, .int (nI i)), (3, .int (xsum (fun j => G (z + 9 * i + j)) r)), (4, .int (nI r))] [] h Q := by
  intro m
  induction m with
  | zero => intro r hm; exact absurd hm (Nat.not_lt_zero _)
  | succ m ih =>
    intro r hm hr
    refine xs_f 7 r_205_5 rfl ?_
    refine xs_f 9 r_205_7 rfl ?_
    refine xs_if 35 12 r_205_9 rfl (fun hc1 => ?_) (fun hc1 => ?_)
    · have hc1 := (nI_leN (nI_k 9) rfl (by omega) (by omega)).mp hc1
      refine xs_f 36 r_205_35 rfl ?_
      refine xs_ret r_205_36 rfl ?_
      have e : r = 9 := by omega
      subst e
      exact k
    · have hc1 := mt (nI_leN (nI_k 9) rfl (by omega) (by omega)).mpr hc1
      refine xs_f 13 r_205_12 rfl ?_
      refine xs_f 14 r_205_13 rfl ?_
      refine xs_get 17 r_205_14 rfl rfl (by first | assumption | exact o0) (by rfl) ?_
      refine xs_f 18 r_205_17 rfl ?_
      refine xs_f 20 r_205_18 rfl ?_
      refine xs_f 21 r_205_20 rfl ?_
      refine xs_f 22 r_205_21 rfl ?_
      refine xs_f 23 r_205_22 rfl ?_
      refine xs_f 25 r_205_23 rfl ?_
      refine xs_f 26 r_205_25 rfl ?_
      refine xs_aldI 27 r_205_26 (fun _ _ => rfl) rfl rfl rfl (j := ((z + (9 * i)) + r)) (nI_addE (nI_addE rfl (nI_mulE (nI_k 9) rfl)) rfl) g0 (by omega) ?_
      refine xs_f 28 r_205_27 rfl ?_
      refine xs_f 29 (lv2 := [(3, _), (0, _), (1, _), (2, _), (4, _)]) r_205_28 rfl ?_
      refine xs_f 32 (lv2 := [(4, _), (3, _), (0, _), (1, _), (2, _)]) r_205_29 rfl ?_
      refine xs_f 5 r_205_32 rfl ?_
      exact xP_lv [(0, .ref a), (1, .int (nI z)), (2, .int (nI i)), (3, .int (xsum (fun j => G (z + 9 * i + j)) (r + 1))), (4, .int (nI (r + 1)))] rfl ⟨rfl, rfl, rfl, rfl, (by rw [nI_succ]; rfl), trivial⟩ (ih (r + 1) (by omega) (by omega))

theorem m_205 {S : XSc} {d : Nat} {h : XH} {Q : XO → XH → Prop} {a : Nat} {G : Nat → Int32} {np no : Nat} {mn : Nat → Nat} {ch sv ty ea fa ol th sp wr : Int32} (o0 : h.1 a = some (.inr (9, mO a ch sv ty ea fa ol th sp wr))) (g0 : IA h.1 0 (a + 1) 288 G) (hG : WG G np no mn) (h32 : 32 ≤ a)  {z i : Nat} (hz : z + 9 * i + 9 ≤ 288) (k : Q (.inl (some (.int (xsum (fun j => G (z + 9 * i + j)) 9)))) h) : xP S d 205 0 [(0, .ref a), (1, .int (nI z)), (2, .int (nI i))] [] h Q := by
  refine xs_f 1 r_205_0 rfl ?_
  refine xs_f 2 (lv2 := [(3, _), (0, _), (1, _), (2, _)]) r_205_1 rfl ?_
  refine xs_f 3 r_205_2 rfl ?_
  refine xs_f 5 (lv2 := [(4, _), (3, _), (0, _), (1, _), (2, _)]) r_205_3 rfl ?_
  exact xP_lv [(0, .ref a), (1, .int (nI z)), (2, .int (nI i)), (3, .int (xsum (fun j => G (z + 9 * i + j)) 0)), (4, .int (nI 0))] rfl ⟨rfl, rfl, rfl, rfl, rfl, trivial⟩ (ml_205 o0 g0 hG h32 hz k 10 0 (by omega) (by omega))

def absM (x : Int32) : Int32 := if x < 0 then -x else x
theorem absM_I (x : Int32) : absM x = absI x := by
  unfold absM absI
  by_cases z : x < 0
  · rw [if_pos z, if_neg (Int32.not_le.mpr z)]
    exact (Int32.zero_sub x).symm
  · rw [if_neg z, if_pos (Int32.not_lt.mp z)]
def gerr (G : Nat → Int32) (i n : Nat) : Int32 := xsum (fun j => absM (10 * G (75 + (9 * i + j)) - (nI (j + 1)) * G (30 + (9 * i + j)))) n
theorem m_151 {S : XSc} {d : Nat} {h : XH} {Q : XO → XH → Prop} {v : Int32} (k : Q (.inl (some (.int (absM v)))) h) : xP S d 151 0 [(0, .int v)] [] h Q := by
  refine xs_f 1 r_151_0 rfl ?_
  refine xs_if 9 4 r_151_1 rfl (fun hc1 => ?_) (fun hc1 => ?_)
  · refine xs_f 10 r_151_9 rfl ?_
    refine xs_ret r_151_10 rfl ?_
    first | exact xq_int k (if_pos (Int32.not_le.mp hc1)).symm | exact xq_int k (if_neg (Int32.not_lt.mpr hc1)).symm
  · refine xs_f 5 r_151_4 rfl ?_
    refine xs_f 6 r_151_5 rfl ?_
    refine xs_f 10 r_151_6 rfl ?_
    refine xs_ret r_151_10 rfl ?_
    first | exact xq_int k (if_pos (Int32.not_le.mp hc1)).symm | exact xq_int k (if_neg (Int32.not_lt.mpr hc1)).symm

theorem ml_210 {S : XSc} {d : Nat} {h : XH} {Q : XO → XH → Prop} {a : Nat} {G : Nat → Int32} {np no : Nat} {mn : Nat → Nat} {ch sv ty ea fa ol th sp wr : Int32} (o0 : h.1 a = some (.inr (9, mO a ch sv ty ea fa ol th sp wr))) (g0 : IA h.1 0 (a + 1) 288 G) (hG : WG G np no mn) (h32 : 32 ≤ a) {i : Nat} (hi5 : i < 5) (k : Q (.inl (some (.int (gerr G i 9)))) h) : ∀ (m : Nat) (r : Nat), 9 - r < m → (r ≤ 9) → xP S (d + 1) 210 4 [(0, .ref a), (1, .int (nI i)), (2, .int (gerr G i r)), (3, .int (nI r))] [] h Q := by
  intro m
  induction m with
  | zero => intro r hm; exact absurd hm (Nat.not_lt_zero _)
  | succ m ih =>
    intro r hm hr
    refine xs_f 5 r_210_4 rfl ?_
    refine xs_f 7 r_210_5 rfl ?_
    refine xs_if 58 10 r_210_7 rfl (fun hc1 => ?_) (fun hc1 => ?_)
    · have hc1 := (nI_leN (nI_k 9) rfl (by omega) (by omega)).mp hc1
      refine xs_f 59 r_210_58 rfl ?_
      refine xs_ret r_210_59 rfl ?_
      have e : r = 9 := by omega
      subst e
      exact k
    · have hc1 := mt (nI_leN (nI_k 9) rfl (by omega) (by omega)).mpr hc1
      refine xs_f 12 r_210_10 rfl ?_
      refine xs_f 13 r_210_12 rfl ?_
      refine xs_f 14 r_210_13 rfl ?_
      refine xs_f 15 r_210_14 rfl ?_
      refine xs_f 16 r_210_15 rfl ?_
      refine xs_f 18 (lv2 := [(4, _), (0, _), (1, _), (2, _), (3, _)]) r_210_16 rfl ?_
      refine xs_f 19 r_210_18 rfl ?_
      refine xs_f 21 r_210_19 rfl ?_
      refine xs_f 22 r_210_21 rfl ?_
      refine xs_get 25 r_210_22 rfl rfl (by first | assumption | exact o0) (by rfl) ?_
      refine xs_f 27 r_210_25 rfl ?_
      refine xs_f 29 r_210_27 rfl ?_
      refine xs_f 30 r_210_29 rfl ?_
      refine xs_aldI 31 r_210_30 (fun _ _ => rfl) rfl rfl rfl (j := (75 + ((9 * i) + r))) (nI_addE (nI_k 75) (nI_addE (nI_mulE (nI_k 9) rfl) rfl)) g0 (by omega) ?_
      refine xs_f 32 r_210_31 rfl ?_
      refine xs_f 33 r_210_32 rfl ?_
      refine xs_f 34 r_210_33 rfl ?_
      refine xs_f 35 r_210_34 rfl ?_
      refine xs_f 36 r_210_35 rfl ?_
      refine xs_get 39 r_210_36 rfl rfl (by first | assumption | exact o0) (by rfl) ?_
      refine xs_f 41 r_210_39 rfl ?_
      refine xs_f 43 r_210_41 rfl ?_
      refine xs_f 44 r_210_43 rfl ?_
      refine xs_aldI 45 r_210_44 (fun _ _ => rfl) rfl rfl rfl (j := (30 + ((9 * i) + r))) (nI_addE (nI_k 30) (nI_addE (nI_mulE (nI_k 9) rfl) rfl)) g0 (by omega) ?_
      refine xs_f 46 r_210_45 rfl ?_
      refine xs_f 47 r_210_46 rfl ?_
      refine xs_call (lv2 := [(0, _)]) r_210_47 rfl rfl (by decide) (xcan_1 rfl) rfl (m_151 ?_)
      refine xK_v rfl ?_
      refine xs_f 51 r_210_50 rfl ?_
      refine xs_f 52 (lv2 := [(2, _), (4, _), (0, _), (1, _), (3, _)]) r_210_51 rfl ?_
      refine xs_f 55 (lv2 := [(3, _), (2, _), (4, _), (0, _), (1, _)]) r_210_52 rfl ?_
      refine xs_f 4 r_210_55 rfl ?_
      exact xP_lv [(0, .ref a), (1, .int (nI i)), (2, .int (gerr G i (r + 1))), (3, .int (nI (r + 1)))] rfl ⟨rfl, rfl, (by rw [show gerr G i (r + 1) = gerr G i r + absM (10 * G (75 + (9 * i + r)) - (nI r + 1) * G (30 + (9 * i + r))) from by rw [← nI_succ]; rfl]; rfl), (by rw [nI_succ]; rfl), trivial⟩ (ih (r + 1) (by omega) (by omega))

theorem m_210 {S : XSc} {d : Nat} {h : XH} {Q : XO → XH → Prop} {a : Nat} {G : Nat → Int32} {np no : Nat} {mn : Nat → Nat} {ch sv ty ea fa ol th sp wr : Int32} (o0 : h.1 a = some (.inr (9, mO a ch sv ty ea fa ol th sp wr))) (g0 : IA h.1 0 (a + 1) 288 G) (hG : WG G np no mn) (h32 : 32 ≤ a)  {i : Nat} (hi5 : i < 5) (k : Q (.inl (some (.int (gerr G i 9)))) h) : xP S (d + 1) 210 0 [(0, .ref a), (1, .int (nI i))] [] h Q := by
  refine xs_f 1 r_210_0 rfl ?_
  refine xs_f 2 (lv2 := [(2, _), (0, _), (1, _)]) r_210_1 rfl ?_
  refine xs_f 3 r_210_2 rfl ?_
  refine xs_f 4 (lv2 := [(3, _), (2, _), (0, _), (1, _)]) r_210_3 rfl ?_
  exact xP_lv [(0, .ref a), (1, .int (nI i)), (2, .int (gerr G i 0)), (3, .int (nI 0))] rfl ⟨rfl, rfl, rfl, rfl, trivial⟩ (ml_210 o0 g0 hG h32 hi5 k 10 0 (by omega) (by omega))

theorem ml_215 {S : XSc} {d : Nat} {h : XH} {Q : XO → XH → Prop} {a : Nat} {G : Nat → Int32} {np no : Nat} {mn : Nat → Nat} {ch sv ty ea fa ol th sp wr : Int32} (o0 : h.1 a = some (.inr (9, mO a ch sv ty ea fa ol th sp wr))) (g0 : IA h.1 0 (a + 1) 288 G) (hG : WG G np no mn) (h32 : 32 ≤ a) {z c : Nat} (hz : z + 9 * 5 + 9 ≤ 288) (hc1 : 1 ≤ c) (hc9 : c ≤ 9) (k : Q (.inl (some (.int (xsum (fun j => G (z + 9 * j + c - 1)) np)))) h) : ∀ (m : Nat) (r : Nat), np - r < m → (r ≤ np) → xP S d 215 5 [(0, .ref a), (1, .int (nI z)), (2, .int (nI c)), (3, .int (xsum (fun j => G (z + 9 * j + c - 1)) r)), (4, .int (nI r))] [] h Q := by
  intro m
  induction m with
  | zero => intro r hm; exact absurd hm (Nat.not_lt_zero _)
  | succ m ih =>
    intro r hm hr
    have np5 := hG.1.2
    refine xs_f 7 r_215_5 rfl ?_
    refine xs_f 8 r_215_7 rfl ?_
    refine xs_get 11 r_215_8 rfl rfl (by first | assumption | exact o0) (by rfl) ?_
    refine xs_f 12 r_215_11 rfl ?_
    refine xs_aldI 13 r_215_12 (fun _ _ => rfl) rfl rfl rfl (j := 0) (nI_k 0) g0 (by omega) ?_
    first | rw [hG.1.1] | skip
    refine xs_if 41 16 r_215_13 rfl (fun hc1 => ?_) (fun hc1 => ?_)
    · have hc1 := (nI_leN rfl rfl (by omega) (by omega)).mp hc1
      refine xs_f 42 r_215_41 rfl ?_
      refine xs_ret r_215_42 rfl ?_
      have e : r = np := by omega
      subst e
      exact k
    · have hc1 := mt (nI_leN rfl rfl (by omega) (by omega)).mpr hc1
      refine xs_f 17 r_215_16 rfl ?_
      refine xs_f 18 r_215_17 rfl ?_
      refine xs_get 21 r_215_18 rfl rfl (by first | assumption | exact o0) (by rfl) ?_
      refine xs_f 22 r_215_21 rfl ?_
      refine xs_f 24 r_215_22 rfl ?_
      refine xs_f 26 r_215_24 rfl ?_
      refine xs_f 27 r_215_26 rfl ?_
      refine xs_f 28 r_215_27 rfl ?_
      refine xs_f 29 r_215_28 rfl ?_
      refine xs_f 30 r_215_29 rfl ?_
      refine xs_f 31 r_215_30 rfl ?_
      refine xs_f 32 r_215_31 rfl ?_
      refine xs_aldI 33 r_215_32 (fun _ _ => rfl) rfl rfl rfl (j := (((z + (9 * r)) + c) - 1)) (nI_subE (nI_addE (nI_addE rfl (nI_mulE (nI_k 9) rfl)) rfl) (nI_k 1) (by omega)) g0 (by omega) ?_
      refine xs_f 34 r_215_33 rfl ?_
      refine xs_f 35 (lv2 := [(3, _), (0, _), (1, _), (2, _), (4, _)]) r_215_34 rfl ?_
      refine xs_f 38 (lv2 := [(4, _), (3, _), (0, _), (1, _), (2, _)]) r_215_35 rfl ?_
      refine xs_f 5 r_215_38 rfl ?_
      exact xP_lv [(0, .ref a), (1, .int (nI z)), (2, .int (nI c)), (3, .int (xsum (fun j => G (z + 9 * j + c - 1)) (r + 1))), (4, .int (nI (r + 1)))] rfl ⟨rfl, rfl, rfl, rfl, (by rw [nI_succ]; rfl), trivial⟩ (ih (r + 1) (by omega) (by omega))

theorem m_215 {S : XSc} {d : Nat} {h : XH} {Q : XO → XH → Prop} {a : Nat} {G : Nat → Int32} {np no : Nat} {mn : Nat → Nat} {ch sv ty ea fa ol th sp wr : Int32} (o0 : h.1 a = some (.inr (9, mO a ch sv ty ea fa ol th sp wr))) (g0 : IA h.1 0 (a + 1) 288 G) (hG : WG G np no mn) (h32 : 32 ≤ a)  {z c : Nat} (hz : z + 9 * 5 + 9 ≤ 288) (hc1 : 1 ≤ c) (hc9 : c ≤ 9) (k : Q (.inl (some (.int (xsum (fun j => G (z + 9 * j + c - 1)) np)))) h) : xP S d 215 0 [(0, .ref a), (1, .int (nI z)), (2, .int (nI c))] [] h Q := by
  refine xs_f 1 r_215_0 rfl ?_
  refine xs_f 2 (lv2 := [(3, _), (0, _), (1, _), (2, _)]) r_215_1 rfl ?_
  refine xs_f 3 r_215_2 rfl ?_
  refine xs_f 5 (lv2 := [(4, _), (3, _), (0, _), (1, _), (2, _)]) r_215_3 rfl ?_
  exact xP_lv [(0, .ref a), (1, .int (nI z)), (2, .int (nI c)), (3, .int (xsum (fun j => G (z + 9 * j + c - 1)) 0)), (4, .int (nI 0))] rfl ⟨rfl, rfl, rfl, rfl, rfl, trivial⟩ (ml_215 o0 g0 hG h32 hz hc1 hc9 k (np + 1) 0 (by omega) (by omega))

/-- 288 ints from f at u go to g at w -/
def cp288 (f g : Nat → Int32) (u w n : Nat) : Nat → Int32 := fun j => if w ≤ j ∧ j < w + n then f (u + (j - w)) else g j
theorem cp288_s {f g : Nat → Int32} {u w n : Nat} : xw (cp288 f g u w n) (w + n) (f (u + n)) = cp288 f g u w (n + 1) := funext fun j => by
  unfold xw cp288
  by_cases z : j = w + n
  · rw [if_pos z, if_pos (by omega)]
    congr 1
    omega
  · rw [if_neg z]
    by_cases z2 : w ≤ j ∧ j < w + n
    · rw [if_pos z2, if_pos (by omega)]
    · rw [if_neg z2, if_neg (by omega)]
theorem ml_154 {S : XSc} {d : Nat} {h : XH} {Q : XO → XH → Prop} {c e u w n1 n2 : Nat} {F1 F2 : Nat → Int32} (hc : IA h.1 0 c n1 F1) (he : IA h.1 0 e n2 F2) (hce : c ≠ e) (h32 : 32 ≤ c) (h33 : 32 ≤ e) (hn1 : u + 288 ≤ n1) (hn2 : w + 288 ≤ n2) (hm1 : n1 ≤ 65536) (hm2 : n2 ≤ 65536) (k : ∀ f, IA f 0 e n2 (cp288 F1 F2 u w 288) → Fr h.1 f e (e + 1) → Q (.inl none) (f, h.2)) : ∀ (m : Nat) (i : Nat) (f : Nat → Option XE), 288 - i < m → (i ≤ 288) → (IA f 0 e n2 (cp288 F1 F2 u w i)) → (Fr h.1 f e (e + 1)) → xP S d 154 3 [(0, .ref c), (1, .int (nI u)), (2, .ref e), (3, .int (nI w)), (4, .int (nI i))] [] (f, h.2) Q := by
  intro m
  induction m with
  | zero => intro i f hm; exact absurd hm (Nat.not_lt_zero _)
  | succ m ih =>
    intro i f hm hi hE hF
    have hc2 := hc.fr (hF c (by omega))
    refine xs_f 5 r_154_3 rfl ?_
    refine xs_f 8 r_154_5 rfl ?_
    refine xs_if 29 11 r_154_8 rfl (fun hc1 => ?_) (fun hc1 => ?_)
    · have hc1 := (nI_leN (nI_k 288) rfl (by omega) (by omega)).mp hc1
      refine xs_ret r_154_29 rfl ?_
      have z : i = 288 := by omega
      subst z
      exact k f hE hF
    · have hc1 := mt (nI_leN (nI_k 288) rfl (by omega) (by omega)).mpr hc1
      refine xs_f 12 r_154_11 rfl ?_
      refine xs_f 13 r_154_12 rfl ?_
      refine xs_f 15 r_154_13 rfl ?_
      refine xs_f 16 r_154_15 rfl ?_
      refine xs_f 17 r_154_16 rfl ?_
      refine xs_f 18 r_154_17 rfl ?_
      refine xs_f 20 r_154_18 rfl ?_
      refine xs_f 21 r_154_20 rfl ?_
      refine xs_aldI 22 r_154_21 (fun _ _ => rfl) rfl rfl rfl (j := (u + i)) (nI_addE rfl rfl) (by first | assumption | (refine IA.fr ?_ (xup_n (by omega)); first | assumption) | (refine IA.fr (IA.fr ?_ (xup_n (by omega))) (xup_n (by omega)); first | assumption) | (refine IA.fr (IA.fr (IA.fr ?_ (xup_n (by omega))) (xup_n (by omega))) (xup_n (by omega)); first | assumption)) (by omega) ?_
      refine xs_astI 23 r_154_22 (fun _ _ => rfl) rfl rfl rfl (j := (w + i)) (nI_addE rfl rfl) (by first | assumption | (refine IA.fr ?_ (xup_n (by omega)); first | assumption) | (refine IA.fr (IA.fr ?_ (xup_n (by omega))) (xup_n (by omega)); first | assumption) | (refine IA.fr (IA.fr (IA.fr ?_ (xup_n (by omega))) (xup_n (by omega))) (xup_n (by omega)); first | assumption)) (by omega) (fun f2 x2 y2 => ?_)
      refine xs_f 26 (lv2 := [(4, _), (0, _), (1, _), (2, _), (3, _)]) r_154_23 rfl ?_
      refine xs_f 3 r_154_26 rfl ?_
      exact xP_lv [(0, .ref c), (1, .int (nI u)), (2, .ref e), (3, .int (nI w)), (4, .int (nI (i + 1)))] rfl ⟨rfl, rfl, rfl, rfl, (by rw [nI_succ]; rfl), trivial⟩ (ih (i + 1) f2 (by omega) (by omega) (by rw [cp288_s] at x2; exact x2) (hF.tr y2))

theorem m_154 {S : XSc} {d : Nat} {h : XH} {Q : XO → XH → Prop} {c e u w n1 n2 : Nat} {F1 F2 : Nat → Int32} (hc : IA h.1 0 c n1 F1) (he : IA h.1 0 e n2 F2) (hce : c ≠ e) (h32 : 32 ≤ c) (h33 : 32 ≤ e) (hn1 : u + 288 ≤ n1) (hn2 : w + 288 ≤ n2) (hm1 : n1 ≤ 65536) (hm2 : n2 ≤ 65536) (k : ∀ f, IA f 0 e n2 (cp288 F1 F2 u w 288) → Fr h.1 f e (e + 1) → Q (.inl none) (f, h.2)) : xP S d 154 0 [(0, .ref c), (1, .int (nI u)), (2, .ref e), (3, .int (nI w))] [] h Q := by
  refine xs_f 1 r_154_0 rfl ?_
  refine xs_f 3 (lv2 := [(4, _), (0, _), (1, _), (2, _), (3, _)]) r_154_1 rfl ?_
  exact xP_lv [(0, .ref c), (1, .int (nI u)), (2, .ref e), (3, .int (nI w)), (4, .int (nI 0))] rfl ⟨rfl, rfl, rfl, rfl, rfl, trivial⟩ (ml_154 hc he hce h32 h33 hn1 hn2 hm1 hm2 k 289 0 h.1 (by omega) (by omega) (he.ex (fun j _ => by unfold cp288; rw [if_neg (by omega)])) Fr.rf)

