/-! the class's answers from the coverage -/
theorem e_141 {S : XSc} {d : Nat} {h : XH} {Q : XO → XH → Prop} {b np no : Nat} {nn : Int32} {sc : Nat} {ho : Int32} {TS TH tr : Nat → Int32} {pl : Nat → XPl} {q : Nat → XQu} {s : Nat → Nat} {R : Nat → Nat → Nat} {e w1 w2 w3 w4 w5 : Nat} {i1 i2 i3 : Int32} (o0 : h.1 e = some (.inr (8, [.ref b, .ref w1, .ref w2, .ref w3, .ref w4, .ref w5, .int i1, .int i2, .int i3]))) (hB : BdP h.1 b np no nn sc ho TS TH tr pl q s R) (h32 : 32 ≤ b) {n : Int32} (k1 : pla q no n < no → 0 < (q (pla q no n)).2.2.1 → Q (.inl (some (.ref (b + 27 + 7 * s (pla q no n))))) h) (k0 : ¬ (pla q no n < no ∧ 0 < (q (pla q no n)).2.2.1) → Q (.inr 5) (xbump h)) : xP S (d + 2) 141 0 [(0, .ref e), (1, .int n)] [] h Q := by
  obtain ⟨b1, ⟨b2n, b2o, b2s⟩, b3, b4, b5, b6, b7, b8, b9, b10⟩ := id hB
  refine xs_f 1 r_141_0 rfl ?_
  refine xs_f 2 r_141_1 rfl ?_
  refine xs_call (lv2 := [(0, _), (1, _)]) r_141_2 rfl rfl (by decide) (xcan_0 rfl rfl (by first | assumption | exact xup_s | exact o0 | exact (b7 _ (by omega)).1 | exact (b10 _ (by omega)).1 | (refine (xup_n (by omega)).trans ?_; first | assumption | exact xup_s | exact o0 | exact (b7 _ (by omega)).1 | exact (b10 _ (by omega)).1) | (refine (xup_n (by omega)).trans ((xup_n (by omega)).trans ?_); first | assumption | exact xup_s | exact o0 | exact (b7 _ (by omega)).1 | exact (b10 _ (by omega)).1) | (refine (xup_n (by omega)).trans ((xup_n (by omega)).trans ((xup_n (by omega)).trans ?_)); first | assumption | exact xup_s | exact o0 | exact (b7 _ (by omega)).1 | exact (b10 _ (by omega)).1)) (by rfl)) rfl (e_140 o0 hB h32 (fun hq => ?_) (fun hq => ?_))
  · refine xK_v rfl ?_
    refine xs_f 6 (lv2 := [(2, _), (0, _), (1, _)]) r_141_5 rfl ?_
    refine xs_f 7 r_141_6 rfl ?_
    have hm5 := (b10 (pla q no n) (by omega)).2.1
    refine xs_get 10 r_141_7 rfl rfl (b10 _ (by omega)).1 (by rfl) ?_
    refine xs_if 13 24 r_141_10 rfl (fun hc1 => ?_) (fun hc1 => ?_)
    · have hc1 := (nI_eqN rfl (nI_k 0) (by omega) (by omega)).mp hc1
      refine xs_thr r_141_13 rfl ?_
      first | exact k1 hq (by omega) | exact k0 (by omega)
    · have hc1 := mt (nI_eqN rfl (nI_k 0) (by omega) (by omega)).mpr hc1
      refine xs_f 25 r_141_24 rfl ?_
      refine xs_ret r_141_25 rfl ?_
      first | exact k1 hq (by omega) | exact k0 (by omega)
  · refine xK_e rfl rfl ?_
    first | exact k1 hq (by omega) | exact k0 (by omega)

theorem cc0 {Q : XO → XH → Prop} {h : XH} {R : XR} {v : Int32} (k : R.1 = 0 → Q (.inl (some (.int R.2))) h) (e : R = (0, v)) : Q (.inl (some (.int v))) h := by subst e; exact k rfl
def R_num (q : Nat → XQu) (no : Nat) (n : Int32) : XR := if pla q no n < no then (0, nI (numV (q (pla q no n)).2.2.2 (q (pla q no n)).2.2.1 1000)) else (1, 0)
theorem e_108 {S : XSc} {d : Nat} {h : XH} {Q : XO → XH → Prop} {b np no : Nat} {nn : Int32} {sc : Nat} {ho : Int32} {TS TH tr : Nat → Int32} {pl : Nat → XPl} {q : Nat → XQu} {s : Nat → Nat} {R : Nat → Nat → Nat} {e w1 w2 w3 w4 w5 : Nat} {i1 i2 i3 : Int32} (o0 : h.1 e = some (.inr (8, [.ref b, .ref w1, .ref w2, .ref w3, .ref w4, .ref w5, .int i1, .int i2, .int i3]))) (hB : BdP h.1 b np no nn sc ho TS TH tr pl q s R) (h32 : 32 ≤ b) {n : Int32} {W : Nat → Nat → Int64} {lo hi : Nat → Int32} {L U : Nat → Nat → Nat} (hC : CvP h.1 w3 W lo hi) (h33 : b + 69 ≤ w3) (hE : ∀ i, i < no → endsE (q i).2.2.2 (q i).2.2.1 (L i) (U i)) (k0 : ∀ f W2 lo2 hi2, CvP f w3 W2 lo2 hi2 → Fr h.1 f w3 (w3 + 10) → (R_mst q no n).1 = 0 → Q (.inl (some (.int (R_mst q no n).2))) (f, h.2)) (k1 : (R_mst q no n).1 = 1 → Q (.inr 5) (xbump h)) : xP S (d + 4) 108 0 [(0, .ref e), (1, .int n)] [] h Q := by
  obtain ⟨b1, ⟨b2n, b2o, b2s⟩, b3, b4, b5, b6, b7, b8, b9, b10⟩ := id hB
  have hC0 := hC.1
  refine xs_f 1 r_108_0 rfl ?_
  refine xs_get 4 r_108_1 rfl rfl (by first | assumption | exact xup_s | exact o0 | exact (b7 _ (by omega)).1 | exact (b10 _ (by omega)).1 | (refine (xup_n (by omega)).trans ?_; first | assumption | exact xup_s | exact o0 | exact (b7 _ (by omega)).1 | exact (b10 _ (by omega)).1) | (refine (xup_n (by omega)).trans ((xup_n (by omega)).trans ?_); first | assumption | exact xup_s | exact o0 | exact (b7 _ (by omega)).1 | exact (b10 _ (by omega)).1) | (refine (xup_n (by omega)).trans ((xup_n (by omega)).trans ((xup_n (by omega)).trans ?_)); first | assumption | exact xup_s | exact o0 | exact (b7 _ (by omega)).1 | exact (b10 _ (by omega)).1)) (by rfl) ?_
  refine xs_f 5 r_108_4 rfl ?_
  refine xs_f 6 r_108_5 rfl ?_
  refine xs_call (lv2 := [(0, _), (1, _)]) r_108_6 rfl rfl (by decide) (xcan_0 rfl rfl (by first | assumption | exact xup_s | exact o0 | exact (b7 _ (by omega)).1 | exact (b10 _ (by omega)).1 | (refine (xup_n (by omega)).trans ?_; first | assumption | exact xup_s | exact o0 | exact (b7 _ (by omega)).1 | exact (b10 _ (by omega)).1) | (refine (xup_n (by omega)).trans ((xup_n (by omega)).trans ?_); first | assumption | exact xup_s | exact o0 | exact (b7 _ (by omega)).1 | exact (b10 _ (by omega)).1) | (refine (xup_n (by omega)).trans ((xup_n (by omega)).trans ((xup_n (by omega)).trans ?_)); first | assumption | exact xup_s | exact o0 | exact (b7 _ (by omega)).1 | exact (b10 _ (by omega)).1)) (by rfl)) rfl (e_141 o0 hB h32 (fun hq hm => ?_) (fun hx => ?_))
  · have hQ := b10 (pla q no n) (by omega)
    have hs6 := b8 (pla q no n) (by omega)
    have hC0 := hC.1
    refine xK_v rfl ?_
    refine xs_call (lv2 := [(0, _), (1, _)]) r_108_9 rfl rfl (by decide) (xcan_0 rfl rfl (by first | assumption | exact xup_s | exact o0 | exact (b7 _ (by omega)).1 | exact (b10 _ (by omega)).1 | (refine (xup_n (by omega)).trans ?_; first | assumption | exact xup_s | exact o0 | exact (b7 _ (by omega)).1 | exact (b10 _ (by omega)).1) | (refine (xup_n (by omega)).trans ((xup_n (by omega)).trans ?_); first | assumption | exact xup_s | exact o0 | exact (b7 _ (by omega)).1 | exact (b10 _ (by omega)).1) | (refine (xup_n (by omega)).trans ((xup_n (by omega)).trans ((xup_n (by omega)).trans ?_)); first | assumption | exact xup_s | exact o0 | exact (b7 _ (by omega)).1 | exact (b10 _ (by omega)).1)) (by rfl)) rfl (v_49 (by omega) hC hQ (by omega) (Or.inl (by omega)) (hE _ hq) (fun f W2 x y => ?_))
    refine xK_v rfl ?_
    refine xs_ret r_108_12 rfl ?_
    first
      | (rw [if_pos hm]; exact cc0 (k0 f _ _ _ x y) (if_pos ⟨hq, hm⟩))
      | exact cqx k1 (if_neg hx)
  · refine xK_e rfl rfl ?_
    first
      | (rw [if_pos hm]; exact cc0 (k0 f _ _ _ x y) (if_pos ⟨hq, hm⟩))
      | exact cqx k1 (if_neg hx)

theorem e_109 {S : XSc} {d : Nat} {h : XH} {Q : XO → XH → Prop} {b np no : Nat} {nn : Int32} {sc : Nat} {ho : Int32} {TS TH tr : Nat → Int32} {pl : Nat → XPl} {q : Nat → XQu} {s : Nat → Nat} {R : Nat → Nat → Nat} {e w1 w2 w3 w4 w5 : Nat} {i1 i2 i3 : Int32} (o0 : h.1 e = some (.inr (8, [.ref b, .ref w1, .ref w2, .ref w3, .ref w4, .ref w5, .int i1, .int i2, .int i3]))) (hB : BdP h.1 b np no nn sc ho TS TH tr pl q s R) (h32 : 32 ≤ b) {n : Int32} {W : Nat → Nat → Int64} {lo hi : Nat → Int32} {L U : Nat → Nat → Nat} (hC : CvP h.1 w3 W lo hi) (h33 : b + 69 ≤ w3) (hE : ∀ i, i < no → endsE (q i).2.2.2 (q i).2.2.1 (L i) (U i)) (k0 : ∀ f W2 lo2 hi2, CvP f w3 W2 lo2 hi2 → Fr h.1 f w3 (w3 + 10) → (R_mst q no n).1 = 0 → Q (.inl (some (.int (R_mst q no n).2))) (f, h.2)) (k1 : (R_mst q no n).1 = 1 → Q (.inr 5) (xbump h)) : xP S (d + 4) 109 0 [(0, .ref e), (1, .int n)] [] h Q := by
  obtain ⟨b1, ⟨b2n, b2o, b2s⟩, b3, b4, b5, b6, b7, b8, b9, b10⟩ := id hB
  have hC0 := hC.1
  refine xs_f 1 r_109_0 rfl ?_
  refine xs_get 4 r_109_1 rfl rfl (by first | assumption | exact xup_s | exact o0 | exact (b7 _ (by omega)).1 | exact (b10 _ (by omega)).1 | (refine (xup_n (by omega)).trans ?_; first | assumption | exact xup_s | exact o0 | exact (b7 _ (by omega)).1 | exact (b10 _ (by omega)).1) | (refine (xup_n (by omega)).trans ((xup_n (by omega)).trans ?_); first | assumption | exact xup_s | exact o0 | exact (b7 _ (by omega)).1 | exact (b10 _ (by omega)).1) | (refine (xup_n (by omega)).trans ((xup_n (by omega)).trans ((xup_n (by omega)).trans ?_)); first | assumption | exact xup_s | exact o0 | exact (b7 _ (by omega)).1 | exact (b10 _ (by omega)).1)) (by rfl) ?_
  refine xs_f 5 r_109_4 rfl ?_
  refine xs_f 6 r_109_5 rfl ?_
  refine xs_call (lv2 := [(0, _), (1, _)]) r_109_6 rfl rfl (by decide) (xcan_0 rfl rfl (by first | assumption | exact xup_s | exact o0 | exact (b7 _ (by omega)).1 | exact (b10 _ (by omega)).1 | (refine (xup_n (by omega)).trans ?_; first | assumption | exact xup_s | exact o0 | exact (b7 _ (by omega)).1 | exact (b10 _ (by omega)).1) | (refine (xup_n (by omega)).trans ((xup_n (by omega)).trans ?_); first | assumption | exact xup_s | exact o0 | exact (b7 _ (by omega)).1 | exact (b10 _ (by omega)).1) | (refine (xup_n (by omega)).trans ((xup_n (by omega)).trans ((xup_n (by omega)).trans ?_)); first | assumption | exact xup_s | exact o0 | exact (b7 _ (by omega)).1 | exact (b10 _ (by omega)).1)) (by rfl)) rfl (e_141 o0 hB h32 (fun hq hm => ?_) (fun hx => ?_))
  · have hQ := b10 (pla q no n) (by omega)
    have hs6 := b8 (pla q no n) (by omega)
    have hC0 := hC.1
    refine xK_v rfl ?_
    refine xs_call (lv2 := [(0, _), (1, _)]) r_109_9 rfl rfl (by decide) (xcan_0 rfl rfl (by first | assumption | exact xup_s | exact o0 | exact (b7 _ (by omega)).1 | exact (b10 _ (by omega)).1 | (refine (xup_n (by omega)).trans ?_; first | assumption | exact xup_s | exact o0 | exact (b7 _ (by omega)).1 | exact (b10 _ (by omega)).1) | (refine (xup_n (by omega)).trans ((xup_n (by omega)).trans ?_); first | assumption | exact xup_s | exact o0 | exact (b7 _ (by omega)).1 | exact (b10 _ (by omega)).1) | (refine (xup_n (by omega)).trans ((xup_n (by omega)).trans ((xup_n (by omega)).trans ?_)); first | assumption | exact xup_s | exact o0 | exact (b7 _ (by omega)).1 | exact (b10 _ (by omega)).1)) (by rfl)) rfl (v_51 (by omega) hC hQ (by omega) (Or.inl (by omega)) (hE _ hq) (fun f lo2 hi2 x y => ?_))
    refine xK_v rfl ?_
    refine xs_ret r_109_12 rfl ?_
    first
      | (rw [if_pos hm]; exact cc0 (k0 f _ _ _ x y) (if_pos ⟨hq, hm⟩))
      | exact cqx k1 (if_neg hx)
  · refine xK_e rfl rfl ?_
    first
      | (rw [if_pos hm]; exact cc0 (k0 f _ _ _ x y) (if_pos ⟨hq, hm⟩))
      | exact cqx k1 (if_neg hx)

theorem e_110 {S : XSc} {d : Nat} {h : XH} {Q : XO → XH → Prop} {b np no : Nat} {nn : Int32} {sc : Nat} {ho : Int32} {TS TH tr : Nat → Int32} {pl : Nat → XPl} {q : Nat → XQu} {s : Nat → Nat} {R : Nat → Nat → Nat} {e w1 w2 w3 w4 w5 : Nat} {i1 i2 i3 : Int32} (o0 : h.1 e = some (.inr (8, [.ref b, .ref w1, .ref w2, .ref w3, .ref w4, .ref w5, .int i1, .int i2, .int i3]))) (hB : BdP h.1 b np no nn sc ho TS TH tr pl q s R) (h32 : 32 ≤ b) {n : Int32} {W : Nat → Nat → Int64} {lo hi : Nat → Int32} {L U : Nat → Nat → Nat} (hC : CvP h.1 w3 W lo hi) (h33 : b + 69 ≤ w3) (hE : ∀ i, i < no → endsE (q i).2.2.2 (q i).2.2.1 (L i) (U i)) (k0 : ∀ f W2 lo2 hi2, CvP f w3 W2 lo2 hi2 → Fr h.1 f w3 (w3 + 10) → (R_num q no n).1 = 0 → Q (.inl (some (.int (R_num q no n).2))) (f, h.2)) (k1 : (R_num q no n).1 = 1 → Q (.inr 5) (xbump h)) : xP S (d + 4) 110 0 [(0, .ref e), (1, .int n)] [] h Q := by
  obtain ⟨b1, ⟨b2n, b2o, b2s⟩, b3, b4, b5, b6, b7, b8, b9, b10⟩ := id hB
  have hC0 := hC.1
  refine xs_f 1 r_110_0 rfl ?_
  refine xs_get 4 r_110_1 rfl rfl (by first | assumption | exact xup_s | exact o0 | exact (b7 _ (by omega)).1 | exact (b10 _ (by omega)).1 | (refine (xup_n (by omega)).trans ?_; first | assumption | exact xup_s | exact o0 | exact (b7 _ (by omega)).1 | exact (b10 _ (by omega)).1) | (refine (xup_n (by omega)).trans ((xup_n (by omega)).trans ?_); first | assumption | exact xup_s | exact o0 | exact (b7 _ (by omega)).1 | exact (b10 _ (by omega)).1) | (refine (xup_n (by omega)).trans ((xup_n (by omega)).trans ((xup_n (by omega)).trans ?_)); first | assumption | exact xup_s | exact o0 | exact (b7 _ (by omega)).1 | exact (b10 _ (by omega)).1)) (by rfl) ?_
  refine xs_f 5 r_110_4 rfl ?_
  refine xs_f 6 r_110_5 rfl ?_
  refine xs_call (lv2 := [(0, _), (1, _)]) r_110_6 rfl rfl (by decide) (xcan_0 rfl rfl (by first | assumption | exact xup_s | exact o0 | exact (b7 _ (by omega)).1 | exact (b10 _ (by omega)).1 | (refine (xup_n (by omega)).trans ?_; first | assumption | exact xup_s | exact o0 | exact (b7 _ (by omega)).1 | exact (b10 _ (by omega)).1) | (refine (xup_n (by omega)).trans ((xup_n (by omega)).trans ?_); first | assumption | exact xup_s | exact o0 | exact (b7 _ (by omega)).1 | exact (b10 _ (by omega)).1) | (refine (xup_n (by omega)).trans ((xup_n (by omega)).trans ((xup_n (by omega)).trans ?_)); first | assumption | exact xup_s | exact o0 | exact (b7 _ (by omega)).1 | exact (b10 _ (by omega)).1)) (by rfl)) rfl (e_140 o0 hB h32 (fun hq => ?_) (fun hq => ?_))
  · have hQ := b10 (pla q no n) (by omega)
    have hs6 := b8 (pla q no n) (by omega)
    have hC0 := hC.1
    refine xK_v rfl ?_
    refine xs_call (lv2 := [(0, _), (1, _)]) r_110_9 rfl rfl (by decide) (xcan_0 rfl rfl (by first | assumption | exact xup_s | exact o0 | exact (b7 _ (by omega)).1 | exact (b10 _ (by omega)).1 | (refine (xup_n (by omega)).trans ?_; first | assumption | exact xup_s | exact o0 | exact (b7 _ (by omega)).1 | exact (b10 _ (by omega)).1) | (refine (xup_n (by omega)).trans ((xup_n (by omega)).trans ?_); first | assumption | exact xup_s | exact o0 | exact (b7 _ (by omega)).1 | exact (b10 _ (by omega)).1) | (refine (xup_n (by omega)).trans ((xup_n (by omega)).trans ((xup_n (by omega)).trans ?_)); first | assumption | exact xup_s | exact o0 | exact (b7 _ (by omega)).1 | exact (b10 _ (by omega)).1)) (by rfl)) rfl (v_50 (by omega) hC hQ (by omega) (Or.inl (by omega)) (hE _ hq) (fun f W2 x y => ?_))
    refine xK_v rfl ?_
    refine xs_ret r_110_12 rfl ?_
    first
      | exact cc0 (k0 f _ _ _ x y) (if_pos hq)
      | exact cqx k1 (if_neg (by omega))
  · refine xK_e rfl rfl ?_
    first
      | exact cc0 (k0 f _ _ _ x y) (if_pos hq)
      | exact cqx k1 (if_neg (by omega))

theorem el_143 {S : XSc} {d : Nat} {h : XH} {Q : XO → XH → Prop} {b np no : Nat} {nn : Int32} {sc : Nat} {ho : Int32} {TS TH tr : Nat → Int32} {pl : Nat → XPl} {q : Nat → XQu} {s : Nat → Nat} {R : Nat → Nat → Nat} {e w1 w2 w3 w4 w5 : Nat} {i1 i2 i3 : Int32} (o0 : h.1 e = some (.inr (8, [.ref b, .ref w1, .ref w2, .ref w3, .ref w4, .ref w5, .int i1, .int i2, .int i3]))) (hB : BdP h.1 b np no nn sc ho TS TH tr pl q s R) (h32 : 32 ≤ b) {W : Nat → Nat → Int64} {lo hi : Nat → Int32} {L U : Nat → Nat → Nat} (hC : CvP h.1 w3 W lo hi) (h33 : b + 69 ≤ w3) (hE : ∀ i, i < no → endsE (q i).2.2.2 (q i).2.2.1 (L i) (U i)) (he : e + 1 ≤ b ∨ w3 + 10 ≤ e) (k : ∀ f W2 lo2 hi2, CvP f w3 W2 lo2 hi2 → Fr h.1 f w3 (w3 + 10) → Q (.inl (some (.int 1))) (f, h.2)) : ∀ (m : Nat) (i : Nat) (f : Nat → Option XE) (W1 : Nat → Nat → Int64) (lo1 : Nat → Int32) (hi1 : Nat → Int32), no - i < m → (i ≤ no) → (CvP f w3 W1 lo1 hi1) → (Fr h.1 f w3 (w3 + 10)) → xP S (d + 4) 143 2 [(0, .ref e), (1, .int (nI i))] [] (f, h.2) Q := by
  intro m
  induction m with
  | zero => intro i f W1 lo1 hi1 hm; exact absurd hm (Nat.not_lt_zero _)
  | succ m ih =>
    intro i f W1 lo1 hi1 hm hi_ hC1 hF
    obtain ⟨b1, ⟨b2n, b2o, b2s⟩, b3, b4, b5, b6, b7, b8, b9, b10⟩ := id (hB.fr (g := f) (fun c z1 z2 => hF c (by omega)))
    have o1 := (hF e (by omega)).trans o0
    refine xs_f 3 r_143_2 rfl ?_
    refine xs_f 4 r_143_3 rfl ?_
    refine xs_get 7 r_143_4 rfl rfl (by first | assumption | exact xup_s | exact o1 | exact (b7 _ (by omega)).1 | exact (b10 _ (by omega)).1 | (refine (xup_n (by omega)).trans ?_; first | assumption | exact xup_s | exact o1 | exact (b7 _ (by omega)).1 | exact (b10 _ (by omega)).1) | (refine (xup_n (by omega)).trans ((xup_n (by omega)).trans ?_); first | assumption | exact xup_s | exact o1 | exact (b7 _ (by omega)).1 | exact (b10 _ (by omega)).1) | (refine (xup_n (by omega)).trans ((xup_n (by omega)).trans ((xup_n (by omega)).trans ?_)); first | assumption | exact xup_s | exact o1 | exact (b7 _ (by omega)).1 | exact (b10 _ (by omega)).1)) (by rfl) ?_
    refine xs_get 10 r_143_7 rfl rfl (by first | assumption | exact xup_s | exact o1 | exact (b7 _ (by omega)).1 | exact (b10 _ (by omega)).1 | (refine (xup_n (by omega)).trans ?_; first | assumption | exact xup_s | exact o1 | exact (b7 _ (by omega)).1 | exact (b10 _ (by omega)).1) | (refine (xup_n (by omega)).trans ((xup_n (by omega)).trans ?_); first | assumption | exact xup_s | exact o1 | exact (b7 _ (by omega)).1 | exact (b10 _ (by omega)).1) | (refine (xup_n (by omega)).trans ((xup_n (by omega)).trans ((xup_n (by omega)).trans ?_)); first | assumption | exact xup_s | exact o1 | exact (b7 _ (by omega)).1 | exact (b10 _ (by omega)).1)) (by rfl) ?_
    refine xs_if 50 13 r_143_10 rfl (fun hc1 => ?_) (fun hc1 => ?_)
    · have hc1 := (nI_leN rfl rfl (by omega) (by omega)).mp hc1
      refine xs_f 51 r_143_50 rfl ?_
      refine xs_ret r_143_51 rfl ?_
      exact k f _ _ _ hC1 hF
    · have hc1 := mt (nI_leN rfl rfl (by omega) (by omega)).mpr hc1
      refine xs_f 14 r_143_13 rfl ?_
      refine xs_get 17 r_143_14 rfl rfl (by first | assumption | exact xup_s | exact o1 | exact (b7 _ (by omega)).1 | exact (b10 _ (by omega)).1 | (refine (xup_n (by omega)).trans ?_; first | assumption | exact xup_s | exact o1 | exact (b7 _ (by omega)).1 | exact (b10 _ (by omega)).1) | (refine (xup_n (by omega)).trans ((xup_n (by omega)).trans ?_); first | assumption | exact xup_s | exact o1 | exact (b7 _ (by omega)).1 | exact (b10 _ (by omega)).1) | (refine (xup_n (by omega)).trans ((xup_n (by omega)).trans ((xup_n (by omega)).trans ?_)); first | assumption | exact xup_s | exact o1 | exact (b7 _ (by omega)).1 | exact (b10 _ (by omega)).1)) (by rfl) ?_
      refine xs_get 20 r_143_17 rfl rfl (by first | assumption | exact xup_s | exact o1 | exact (b7 _ (by omega)).1 | exact (b10 _ (by omega)).1 | (refine (xup_n (by omega)).trans ?_; first | assumption | exact xup_s | exact o1 | exact (b7 _ (by omega)).1 | exact (b10 _ (by omega)).1) | (refine (xup_n (by omega)).trans ((xup_n (by omega)).trans ?_); first | assumption | exact xup_s | exact o1 | exact (b7 _ (by omega)).1 | exact (b10 _ (by omega)).1) | (refine (xup_n (by omega)).trans ((xup_n (by omega)).trans ((xup_n (by omega)).trans ?_)); first | assumption | exact xup_s | exact o1 | exact (b7 _ (by omega)).1 | exact (b10 _ (by omega)).1)) (by rfl) ?_
      refine xs_f 21 r_143_20 rfl ?_
      refine xs_aldR 22 r_143_21 (fun _ _ => rfl) rfl rfl rfl (j := i) rfl (by first | assumption | (refine RA.fr ?_ (xup_n (by omega)); first | assumption) | (refine RA.fr (RA.fr ?_ (xup_n (by omega))) (xup_n (by omega)); first | assumption) | (refine RA.fr (RA.fr (RA.fr ?_ (xup_n (by omega))) (xup_n (by omega))) (xup_n (by omega)); first | assumption)) (by omega) ?_
      refine xs_f 23 (lv2 := [(2, _), (0, _), (1, _)]) r_143_22 rfl ?_
      have hQ := b10 i (by omega)
      have hs6 := b8 i (by omega)
      have hC0 := hC1.1
      refine xs_f 24 r_143_23 rfl ?_
      refine xs_get 27 r_143_24 rfl rfl (by first | assumption | exact xup_s | exact o1 | exact (b7 _ (by omega)).1 | exact (b10 _ (by omega)).1 | (refine (xup_n (by omega)).trans ?_; first | assumption | exact xup_s | exact o1 | exact (b7 _ (by omega)).1 | exact (b10 _ (by omega)).1) | (refine (xup_n (by omega)).trans ((xup_n (by omega)).trans ?_); first | assumption | exact xup_s | exact o1 | exact (b7 _ (by omega)).1 | exact (b10 _ (by omega)).1) | (refine (xup_n (by omega)).trans ((xup_n (by omega)).trans ((xup_n (by omega)).trans ?_)); first | assumption | exact xup_s | exact o1 | exact (b7 _ (by omega)).1 | exact (b10 _ (by omega)).1)) (by rfl) ?_
      refine xs_f 28 r_143_27 rfl ?_
      refine xs_call (lv2 := [(0, _), (1, _)]) r_143_28 rfl rfl (by decide) (xcan_0 rfl rfl (by first | assumption | exact xup_s | exact o1 | exact (b7 _ (by omega)).1 | exact (b10 _ (by omega)).1 | (refine (xup_n (by omega)).trans ?_; first | assumption | exact xup_s | exact o1 | exact (b7 _ (by omega)).1 | exact (b10 _ (by omega)).1) | (refine (xup_n (by omega)).trans ((xup_n (by omega)).trans ?_); first | assumption | exact xup_s | exact o1 | exact (b7 _ (by omega)).1 | exact (b10 _ (by omega)).1) | (refine (xup_n (by omega)).trans ((xup_n (by omega)).trans ((xup_n (by omega)).trans ?_)); first | assumption | exact xup_s | exact o1 | exact (b7 _ (by omega)).1 | exact (b10 _ (by omega)).1)) (by rfl)) rfl (v_49 (h := (f, h.2)) (by omega) hC1 hQ (by omega) (Or.inl (by omega)) (hE _ (by omega)) (fun f2 W2 x2 y2 => ?_))
      refine xK_v rfl ?_
      have hQ2 := hQ.fr (g := f2) (fun x z1 z2 => y2 x (by omega))
      have o2 := (y2 e (by omega)).trans o1
      have hC0 := x2.1
      refine xs_f 32 r_143_31 rfl ?_
      refine xs_get 35 r_143_32 rfl rfl (by first | assumption | exact xup_s | exact o1 | exact (b7 _ (by omega)).1 | exact (b10 _ (by omega)).1 | (refine (xup_n (by omega)).trans ?_; first | assumption | exact xup_s | exact o1 | exact (b7 _ (by omega)).1 | exact (b10 _ (by omega)).1) | (refine (xup_n (by omega)).trans ((xup_n (by omega)).trans ?_); first | assumption | exact xup_s | exact o1 | exact (b7 _ (by omega)).1 | exact (b10 _ (by omega)).1) | (refine (xup_n (by omega)).trans ((xup_n (by omega)).trans ((xup_n (by omega)).trans ?_)); first | assumption | exact xup_s | exact o1 | exact (b7 _ (by omega)).1 | exact (b10 _ (by omega)).1)) (by rfl) ?_
      refine xs_f 36 r_143_35 rfl ?_
      refine xs_call (lv2 := [(0, _), (1, _)]) r_143_36 rfl rfl (by decide) (xcan_0 rfl rfl (by first | assumption | exact xup_s | exact o1 | exact (b7 _ (by omega)).1 | exact (b10 _ (by omega)).1 | (refine (xup_n (by omega)).trans ?_; first | assumption | exact xup_s | exact o1 | exact (b7 _ (by omega)).1 | exact (b10 _ (by omega)).1) | (refine (xup_n (by omega)).trans ((xup_n (by omega)).trans ?_); first | assumption | exact xup_s | exact o1 | exact (b7 _ (by omega)).1 | exact (b10 _ (by omega)).1) | (refine (xup_n (by omega)).trans ((xup_n (by omega)).trans ((xup_n (by omega)).trans ?_)); first | assumption | exact xup_s | exact o1 | exact (b7 _ (by omega)).1 | exact (b10 _ (by omega)).1)) (by rfl)) rfl (v_51 (h := (f2, h.2)) (by omega) x2 hQ2 (by omega) (Or.inl (by omega)) (hE _ (by omega)) (fun f3 lo3 hi3 x3 y3 => ?_))
      refine xK_v rfl ?_
      refine xs_if 44 42 r_143_39 rfl (fun hz => ?_) (fun hz => ?_)
      · refine xs_f 47 (lv2 := [(1, _), (2, _), (0, _)]) r_143_44 rfl ?_
        refine xs_f 2 r_143_47 rfl ?_
        exact xP_lv [(0, .ref e), (1, .int (nI (i + 1)))] rfl ⟨rfl, (by rw [nI_succ]; rfl), trivial⟩ (ih (i + 1) f3 _ _ _ (by omega) (by omega) x3 ((hF.tr y2).tr y3))
      · exact absurd rfl hz

theorem e_143 {S : XSc} {d : Nat} {h : XH} {Q : XO → XH → Prop} {b np no : Nat} {nn : Int32} {sc : Nat} {ho : Int32} {TS TH tr : Nat → Int32} {pl : Nat → XPl} {q : Nat → XQu} {s : Nat → Nat} {R : Nat → Nat → Nat} {e w1 w2 w3 w4 w5 : Nat} {i1 i2 i3 : Int32} (o0 : h.1 e = some (.inr (8, [.ref b, .ref w1, .ref w2, .ref w3, .ref w4, .ref w5, .int i1, .int i2, .int i3]))) (hB : BdP h.1 b np no nn sc ho TS TH tr pl q s R) (h32 : 32 ≤ b) {W : Nat → Nat → Int64} {lo hi : Nat → Int32} {L U : Nat → Nat → Nat} (hC : CvP h.1 w3 W lo hi) (h33 : b + 69 ≤ w3) (hE : ∀ i, i < no → endsE (q i).2.2.2 (q i).2.2.1 (L i) (U i)) (he : e + 1 ≤ b ∨ w3 + 10 ≤ e) (k : ∀ f W2 lo2 hi2, CvP f w3 W2 lo2 hi2 → Fr h.1 f w3 (w3 + 10) → Q (.inl (some (.int 1))) (f, h.2)) : xP S (d + 4) 143 0 [(0, .ref e)] [] h Q := by
  obtain ⟨b1, ⟨b2n, b2o, b2s⟩, b3, b4, b5, b6, b7, b8, b9, b10⟩ := id hB
  have hC0 := hC.1
  refine xs_f 1 r_143_0 rfl ?_
  refine xs_f 2 (lv2 := [(1, _), (0, _)]) r_143_1 rfl ?_
  exact xP_lv [(0, .ref e), (1, .int (nI 0))] rfl ⟨rfl, rfl, trivial⟩ (el_143 o0 hB h32 hC h33 hE he k (no + 1) 0 h.1 W lo hi (by omega) (by omega) hC Fr.rf)

theorem e_124 {S : XSc} {d : Nat} {h : XH} {Q : XO → XH → Prop} {b np no : Nat} {nn : Int32} {sc : Nat} {ho : Int32} {TS TH tr : Nat → Int32} {pl : Nat → XPl} {q : Nat → XQu} {s : Nat → Nat} {R : Nat → Nat → Nat} {e w1 w2 w3 w4 w5 : Nat} {i1 i2 i3 : Int32} (o0 : h.1 e = some (.inr (8, [.ref b, .ref w1, .ref w2, .ref w3, .ref w4, .ref w5, .int i1, .int i2, .int i3]))) (hB : BdP h.1 b np no nn sc ho TS TH tr pl q s R) (h32 : 32 ≤ b) {W : Nat → Nat → Int64} {lo hi : Nat → Int32} {L U : Nat → Nat → Nat} (hC : CvP h.1 w3 W lo hi) (h33 : b + 69 ≤ w3) (hE : ∀ i, i < no → endsE (q i).2.2.2 (q i).2.2.1 (L i) (U i)) (he : e + 1 ≤ b ∨ w3 + 10 ≤ e) (hs1 : xacc (ho + xsum (fun i => stkQ (q i)) no) (fun i => (pl i).1) np = 100 * nI np) (hs2 : ∀ j, 1 ≤ j → j ≤ 9 → TS j = xsum (fun i => (pl i).2.2.2.1 j) np) (k : ∀ f W2 lo2 hi2, CvP f w3 W2 lo2 hi2 → Fr h.1 f w3 (w3 + 10) → Q (.inl (some (.int 1))) (f, h.2)) : xP S (d + 5) 124 0 [(0, .ref e)] [] h Q := by
  obtain ⟨b1, ⟨b2n, b2o, b2s⟩, b3, b4, b5, b6, b7, b8, b9, b10⟩ := id hB
  have hC0 := hC.1
  refine xs_f 1 r_124_0 rfl ?_
  refine xs_get 4 r_124_1 rfl rfl (by first | assumption | exact xup_s | exact o0 | exact (b7 _ (by omega)).1 | exact (b10 _ (by omega)).1 | (refine (xup_n (by omega)).trans ?_; first | assumption | exact xup_s | exact o0 | exact (b7 _ (by omega)).1 | exact (b10 _ (by omega)).1) | (refine (xup_n (by omega)).trans ((xup_n (by omega)).trans ?_); first | assumption | exact xup_s | exact o0 | exact (b7 _ (by omega)).1 | exact (b10 _ (by omega)).1) | (refine (xup_n (by omega)).trans ((xup_n (by omega)).trans ((xup_n (by omega)).trans ?_)); first | assumption | exact xup_s | exact o0 | exact (b7 _ (by omega)).1 | exact (b10 _ (by omega)).1)) (by rfl) ?_
  refine xs_call (lv2 := [(0, _)]) r_124_4 rfl rfl (by decide) (xcan_0 rfl rfl (by first | assumption | exact xup_s | exact o0 | exact (b7 _ (by omega)).1 | exact (b10 _ (by omega)).1 | (refine (xup_n (by omega)).trans ?_; first | assumption | exact xup_s | exact o0 | exact (b7 _ (by omega)).1 | exact (b10 _ (by omega)).1) | (refine (xup_n (by omega)).trans ((xup_n (by omega)).trans ?_); first | assumption | exact xup_s | exact o0 | exact (b7 _ (by omega)).1 | exact (b10 _ (by omega)).1) | (refine (xup_n (by omega)).trans ((xup_n (by omega)).trans ((xup_n (by omega)).trans ?_)); first | assumption | exact xup_s | exact o0 | exact (b7 _ (by omega)).1 | exact (b10 _ (by omega)).1)) (by rfl)) rfl (c_33 hB h32 hs1 ?_)
  refine xK_v rfl ?_
  refine xs_f 10 r_124_7 rfl ?_
  refine xs_f 11 r_124_10 rfl ?_
  refine xs_call (lv2 := [(0, _)]) r_124_11 rfl rfl (by decide) (xcan_0 rfl rfl (by first | assumption | exact xup_s | exact o0 | exact (b7 _ (by omega)).1 | exact (b10 _ (by omega)).1 | (refine (xup_n (by omega)).trans ?_; first | assumption | exact xup_s | exact o0 | exact (b7 _ (by omega)).1 | exact (b10 _ (by omega)).1) | (refine (xup_n (by omega)).trans ((xup_n (by omega)).trans ?_); first | assumption | exact xup_s | exact o0 | exact (b7 _ (by omega)).1 | exact (b10 _ (by omega)).1) | (refine (xup_n (by omega)).trans ((xup_n (by omega)).trans ((xup_n (by omega)).trans ?_)); first | assumption | exact xup_s | exact o0 | exact (b7 _ (by omega)).1 | exact (b10 _ (by omega)).1)) (by rfl)) rfl (e_143 o0 hB h32 hC h33 hE he (fun f W2 lo2 hi2 x y => ?_))
  refine xK_v rfl ?_
  refine xs_f 17 r_124_14 rfl ?_
  refine xs_f 18 r_124_17 rfl ?_
  have b1f := (y b (by omega)).trans b1
  refine xs_get 21 r_124_18 rfl rfl ((y e (by omega)).trans o0) (by rfl) ?_
  refine xs_call (lv2 := [(0, _)]) r_124_21 rfl rfl (by decide) (xcan_0 rfl rfl (by first | assumption | exact xup_s | exact o0 | exact (b7 _ (by omega)).1 | exact (b10 _ (by omega)).1 | (refine (xup_n (by omega)).trans ?_; first | assumption | exact xup_s | exact o0 | exact (b7 _ (by omega)).1 | exact (b10 _ (by omega)).1) | (refine (xup_n (by omega)).trans ((xup_n (by omega)).trans ?_); first | assumption | exact xup_s | exact o0 | exact (b7 _ (by omega)).1 | exact (b10 _ (by omega)).1) | (refine (xup_n (by omega)).trans ((xup_n (by omega)).trans ((xup_n (by omega)).trans ?_)); first | assumption | exact xup_s | exact o0 | exact (b7 _ (by omega)).1 | exact (b10 _ (by omega)).1)) (by rfl)) rfl (c_34 (h := (f, h.2)) (hB.fr (fun c z1 z2 => y c (by omega))) h32 hs2 ?_)
  refine xK_v rfl ?_
  refine xs_f 27 r_124_24 rfl ?_
  refine xs_f 28 r_124_27 rfl ?_
  refine xs_f 32 r_124_28 rfl ?_
  refine xs_ret r_124_32 rfl ?_
  exact k f W2 lo2 hi2 x y

