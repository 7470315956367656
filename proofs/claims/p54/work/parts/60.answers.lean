/-! the class's answers -/
theorem cq0 {Q : XO → XH → Prop} {h : XH} {R : XR} {v : Int32} (k : R.1 = 0 → Q (.inl (some (.int R.2))) h) (e : R = (0, v)) : Q (.inl (some (.int v))) h := by subst e; exact k rfl
theorem cqx {Q : XO → XH → Prop} {h : XH} {R : XR} {c E : Nat} {v : Int32} (k : R.1 = c → Q (.inr E) h) (e : R = (c, v)) : Q (.inr E) h := by subst e; exact k rfl
theorem min_E {n : Nat} (hn : n < 2 ^ 31) : (if (5 : Int32) < nI n then 5 else nI n) = nI (min n 5) := by
  by_cases z : 5 < n
  · rw [if_pos ((nI_ltN (nI_k 5) rfl (by omega) hn).mpr z), show min n 5 = 5 by omega]
    rfl
  · rw [if_neg (mt (nI_ltN (nI_k 5) rfl (by omega) hn).mp z), show min n 5 = n by omega]
theorem e_139 {S : XSc} {d : Nat} {h : XH} {Q : XO → XH → Prop} {b np no : Nat} {nn : Int32} {sc : Nat} {ho : Int32} {TS TH tr : Nat → Int32} {pl : Nat → XPl} {q : Nat → XQu} {s : Nat → Nat} {R : Nat → Nat → Nat} {e w1 w2 w3 w4 w5 : Nat} {i1 i2 i3 : Int32} (o0 : h.1 e = some (.inr (8, [.ref b, .ref w1, .ref w2, .ref w3, .ref w4, .ref w5, .int i1, .int i2, .int i3]))) (hB : BdP h.1 b np no nn sc ho TS TH tr pl q s R) (h32 : 32 ≤ b) {p : Int32} (k1 : ∀ i, i < np → p = nI i → Q (.inl (some (.ref (b + 7 + 4 * i)))) h) (k0 : ¬ isPl np p → Q (.inr 2) (xbump h)) : xP S (d + 1) 139 0 [(0, .ref e), (1, .int p)] [] h Q := by
  obtain ⟨b1, ⟨b2n, b2o, b2s⟩, b3, b4, b5, b6, b7, b8, b9, b10⟩ := id hB
  refine xs_f 1 r_139_0 rfl ?_
  refine xs_get 4 r_139_1 rfl rfl (by first | assumption | exact xup_s | exact o0 | exact (b7 _ (by omega)).1 | exact (b10 _ (by omega)).1 | (refine (xup_n (by omega)).trans ?_; first | assumption | exact xup_s | exact o0 | exact (b7 _ (by omega)).1 | exact (b10 _ (by omega)).1) | (refine (xup_n (by omega)).trans ((xup_n (by omega)).trans ?_); first | assumption | exact xup_s | exact o0 | exact (b7 _ (by omega)).1 | exact (b10 _ (by omega)).1) | (refine (xup_n (by omega)).trans ((xup_n (by omega)).trans ((xup_n (by omega)).trans ?_)); first | assumption | exact xup_s | exact o0 | exact (b7 _ (by omega)).1 | exact (b10 _ (by omega)).1)) (by rfl) ?_
  refine xs_f 5 r_139_4 rfl ?_
  refine xs_call (lv2 := [(0, _), (1, _)]) r_139_5 rfl rfl (by decide) (xcan_0 rfl rfl (by first | assumption | exact xup_s | exact o0 | exact (b7 _ (by omega)).1 | exact (b10 _ (by omega)).1 | (refine (xup_n (by omega)).trans ?_; first | assumption | exact xup_s | exact o0 | exact (b7 _ (by omega)).1 | exact (b10 _ (by omega)).1) | (refine (xup_n (by omega)).trans ((xup_n (by omega)).trans ?_); first | assumption | exact xup_s | exact o0 | exact (b7 _ (by omega)).1 | exact (b10 _ (by omega)).1) | (refine (xup_n (by omega)).trans ((xup_n (by omega)).trans ((xup_n (by omega)).trans ?_)); first | assumption | exact xup_s | exact o0 | exact (b7 _ (by omega)).1 | exact (b10 _ (by omega)).1)) (by rfl)) rfl (c_12 hB h32 (fun hp => ?_) (fun hp => ?_))
  · obtain ⟨i, hi, hpi⟩ := isPl_nI hp b2n
    refine xK_v rfl ?_
    refine xs_f 22 r_139_8 rfl ?_
    refine xs_f 23 r_139_22 rfl ?_
    refine xs_get 26 r_139_23 rfl rfl (by first | assumption | exact xup_s | exact o0 | exact (b7 _ (by omega)).1 | exact (b10 _ (by omega)).1 | (refine (xup_n (by omega)).trans ?_; first | assumption | exact xup_s | exact o0 | exact (b7 _ (by omega)).1 | exact (b10 _ (by omega)).1) | (refine (xup_n (by omega)).trans ((xup_n (by omega)).trans ?_); first | assumption | exact xup_s | exact o0 | exact (b7 _ (by omega)).1 | exact (b10 _ (by omega)).1) | (refine (xup_n (by omega)).trans ((xup_n (by omega)).trans ((xup_n (by omega)).trans ?_)); first | assumption | exact xup_s | exact o0 | exact (b7 _ (by omega)).1 | exact (b10 _ (by omega)).1)) (by rfl) ?_
    refine xs_get 29 r_139_26 rfl rfl (by first | assumption | exact xup_s | exact o0 | exact (b7 _ (by omega)).1 | exact (b10 _ (by omega)).1 | (refine (xup_n (by omega)).trans ?_; first | assumption | exact xup_s | exact o0 | exact (b7 _ (by omega)).1 | exact (b10 _ (by omega)).1) | (refine (xup_n (by omega)).trans ((xup_n (by omega)).trans ?_); first | assumption | exact xup_s | exact o0 | exact (b7 _ (by omega)).1 | exact (b10 _ (by omega)).1) | (refine (xup_n (by omega)).trans ((xup_n (by omega)).trans ((xup_n (by omega)).trans ?_)); first | assumption | exact xup_s | exact o0 | exact (b7 _ (by omega)).1 | exact (b10 _ (by omega)).1)) (by rfl) ?_
    refine xs_f 30 r_139_29 rfl ?_
    refine xs_aldR 31 r_139_30 (fun _ _ => rfl) rfl rfl rfl (j := i) hpi (by first | assumption | (refine RA.fr ?_ (xup_n (by omega)); first | assumption) | (refine RA.fr (RA.fr ?_ (xup_n (by omega))) (xup_n (by omega)); first | assumption) | (refine RA.fr (RA.fr (RA.fr ?_ (xup_n (by omega))) (xup_n (by omega))) (xup_n (by omega)); first | assumption)) (by omega) ?_
    refine xs_ret r_139_31 rfl ?_
    exact k1 i hi hpi
  · refine xK_v rfl ?_
    refine xs_f 11 r_139_8 rfl ?_
    refine xs_thr r_139_11 rfl ?_
    exact k0 hp

theorem e_140 {S : XSc} {d : Nat} {h : XH} {Q : XO → XH → Prop} {b np no : Nat} {nn : Int32} {sc : Nat} {ho : Int32} {TS TH tr : Nat → Int32} {pl : Nat → XPl} {q : Nat → XQu} {s : Nat → Nat} {R : Nat → Nat → Nat} {e w1 w2 w3 w4 w5 : Nat} {i1 i2 i3 : Int32} (o0 : h.1 e = some (.inr (8, [.ref b, .ref w1, .ref w2, .ref w3, .ref w4, .ref w5, .int i1, .int i2, .int i3]))) (hB : BdP h.1 b np no nn sc ho TS TH tr pl q s R) (h32 : 32 ≤ b) {n : Int32} (k1 : pla q no n < no → Q (.inl (some (.ref (b + 27 + 7 * s (pla q no n))))) h) (k0 : pla q no n = no → Q (.inr 5) (xbump h)) : xP S (d + 1) 140 0 [(0, .ref e), (1, .int n)] [] h Q := by
  obtain ⟨b1, ⟨b2n, b2o, b2s⟩, b3, b4, b5, b6, b7, b8, b9, b10⟩ := id hB
  refine xs_f 1 r_140_0 rfl ?_
  refine xs_get 4 r_140_1 rfl rfl (by first | assumption | exact xup_s | exact o0 | exact (b7 _ (by omega)).1 | exact (b10 _ (by omega)).1 | (refine (xup_n (by omega)).trans ?_; first | assumption | exact xup_s | exact o0 | exact (b7 _ (by omega)).1 | exact (b10 _ (by omega)).1) | (refine (xup_n (by omega)).trans ((xup_n (by omega)).trans ?_); first | assumption | exact xup_s | exact o0 | exact (b7 _ (by omega)).1 | exact (b10 _ (by omega)).1) | (refine (xup_n (by omega)).trans ((xup_n (by omega)).trans ((xup_n (by omega)).trans ?_)); first | assumption | exact xup_s | exact o0 | exact (b7 _ (by omega)).1 | exact (b10 _ (by omega)).1)) (by rfl) ?_
  refine xs_f 5 r_140_4 rfl ?_
  refine xs_call (lv2 := [(0, _), (1, _)]) r_140_5 rfl rfl (by decide) (xcan_0 rfl rfl (by first | assumption | exact xup_s | exact o0 | exact (b7 _ (by omega)).1 | exact (b10 _ (by omega)).1 | (refine (xup_n (by omega)).trans ?_; first | assumption | exact xup_s | exact o0 | exact (b7 _ (by omega)).1 | exact (b10 _ (by omega)).1) | (refine (xup_n (by omega)).trans ((xup_n (by omega)).trans ?_); first | assumption | exact xup_s | exact o0 | exact (b7 _ (by omega)).1 | exact (b10 _ (by omega)).1) | (refine (xup_n (by omega)).trans ((xup_n (by omega)).trans ((xup_n (by omega)).trans ?_)); first | assumption | exact xup_s | exact o0 | exact (b7 _ (by omega)).1 | exact (b10 _ (by omega)).1)) (by rfl)) rfl (c_13 hB h32 (fun hq => ?_) (fun hq => ?_))
  · refine xK_v rfl ?_
    refine xs_f 9 (lv2 := [(2, _), (0, _), (1, _)]) r_140_8 rfl ?_
    refine xs_f 10 r_140_9 rfl ?_
    refine xs_f 11 r_140_10 rfl ?_
    refine xs_if 14 24 r_140_11 rfl (fun hc1 => ?_) (fun hc1 => ?_)
    · exact absurd hc1 (nI_m1 rfl (by omega))
    · refine xs_f 25 r_140_24 rfl ?_
      refine xs_get 28 r_140_25 rfl rfl (by first | assumption | exact xup_s | exact o0 | exact (b7 _ (by omega)).1 | exact (b10 _ (by omega)).1 | (refine (xup_n (by omega)).trans ?_; first | assumption | exact xup_s | exact o0 | exact (b7 _ (by omega)).1 | exact (b10 _ (by omega)).1) | (refine (xup_n (by omega)).trans ((xup_n (by omega)).trans ?_); first | assumption | exact xup_s | exact o0 | exact (b7 _ (by omega)).1 | exact (b10 _ (by omega)).1) | (refine (xup_n (by omega)).trans ((xup_n (by omega)).trans ((xup_n (by omega)).trans ?_)); first | assumption | exact xup_s | exact o0 | exact (b7 _ (by omega)).1 | exact (b10 _ (by omega)).1)) (by rfl) ?_
      refine xs_get 31 r_140_28 rfl rfl (by first | assumption | exact xup_s | exact o0 | exact (b7 _ (by omega)).1 | exact (b10 _ (by omega)).1 | (refine (xup_n (by omega)).trans ?_; first | assumption | exact xup_s | exact o0 | exact (b7 _ (by omega)).1 | exact (b10 _ (by omega)).1) | (refine (xup_n (by omega)).trans ((xup_n (by omega)).trans ?_); first | assumption | exact xup_s | exact o0 | exact (b7 _ (by omega)).1 | exact (b10 _ (by omega)).1) | (refine (xup_n (by omega)).trans ((xup_n (by omega)).trans ((xup_n (by omega)).trans ?_)); first | assumption | exact xup_s | exact o0 | exact (b7 _ (by omega)).1 | exact (b10 _ (by omega)).1)) (by rfl) ?_
      refine xs_f 32 r_140_31 rfl ?_
      refine xs_aldR 33 r_140_32 (fun _ _ => rfl) rfl rfl rfl (j := (pla q no n)) rfl (by first | assumption | (refine RA.fr ?_ (xup_n (by omega)); first | assumption) | (refine RA.fr (RA.fr ?_ (xup_n (by omega))) (xup_n (by omega)); first | assumption) | (refine RA.fr (RA.fr (RA.fr ?_ (xup_n (by omega))) (xup_n (by omega))) (xup_n (by omega)); first | assumption)) (by omega) ?_
      refine xs_ret r_140_33 rfl ?_
      exact k1 hq
  · refine xK_v rfl ?_
    refine xs_f 9 (lv2 := [(2, _), (0, _), (1, _)]) r_140_8 rfl ?_
    refine xs_f 10 r_140_9 rfl ?_
    refine xs_f 11 r_140_10 rfl ?_
    refine xs_f 14 r_140_11 rfl ?_
    refine xs_thr r_140_14 rfl ?_
    exact k0 hq

theorem e_142 {S : XSc} {d : Nat} {h : XH} {Q : XO → XH → Prop} {b np no : Nat} {nn : Int32} {sc : Nat} {ho : Int32} {TS TH tr : Nat → Int32} {pl : Nat → XPl} {q : Nat → XQu} {s : Nat → Nat} {R : Nat → Nat → Nat} {e w1 w2 w3 w4 w5 : Nat} {i1 i2 i3 : Int32} (o0 : h.1 e = some (.inr (8, [.ref b, .ref w1, .ref w2, .ref w3, .ref w4, .ref w5, .int i1, .int i2, .int i3]))) (hB : BdP h.1 b np no nn sc ho TS TH tr pl q s R) (h32 : 32 ≤ b) {p n : Int32} (k1 : isPl np p → pla q no n < no → (rnk (q (pla q no n)).2.2.2 (q (pla q no n)).2.2.1 p) < (q (pla q no n)).2.2.1 → Q (.inl (some (.ref (b + 27 + 7 * s (pla q no n) + 2 + R (pla q no n) (rnk (q (pla q no n)).2.2.2 (q (pla q no n)).2.2.1 p))))) h) (ka : ¬ isPl np p → Q (.inr 2) (xbump h)) (kb : isPl np p → ¬ (pla q no n < no ∧ (rnk (q (pla q no n)).2.2.2 (q (pla q no n)).2.2.1 p) < (q (pla q no n)).2.2.1) → Q (.inr 5) (xbump h)) : xP S (d + 2) 142 0 [(0, .ref e), (1, .int p), (2, .int n)] [] h Q := by
  obtain ⟨b1, ⟨b2n, b2o, b2s⟩, b3, b4, b5, b6, b7, b8, b9, b10⟩ := id hB
  refine xs_f 1 r_142_0 rfl ?_
  refine xs_f 2 r_142_1 rfl ?_
  refine xs_call (lv2 := [(0, _), (1, _)]) r_142_2 rfl rfl (by decide) (xcan_0 rfl rfl (by first | assumption | exact xup_s | exact o0 | exact (b7 _ (by omega)).1 | exact (b10 _ (by omega)).1 | (refine (xup_n (by omega)).trans ?_; first | assumption | exact xup_s | exact o0 | exact (b7 _ (by omega)).1 | exact (b10 _ (by omega)).1) | (refine (xup_n (by omega)).trans ((xup_n (by omega)).trans ?_); first | assumption | exact xup_s | exact o0 | exact (b7 _ (by omega)).1 | exact (b10 _ (by omega)).1) | (refine (xup_n (by omega)).trans ((xup_n (by omega)).trans ((xup_n (by omega)).trans ?_)); first | assumption | exact xup_s | exact o0 | exact (b7 _ (by omega)).1 | exact (b10 _ (by omega)).1)) (by rfl)) rfl (e_139 o0 hB h32 (fun i hi hpi => ?_) (fun hp => ?_))
  · refine xK_v rfl ?_
    refine xs_f 6 r_142_5 rfl ?_
    refine xs_f 7 r_142_6 rfl ?_
    refine xs_f 8 r_142_7 rfl ?_
    refine xs_call (lv2 := [(0, _), (1, _)]) r_142_8 rfl rfl (by decide) (xcan_0 rfl rfl (by first | assumption | exact xup_s | exact o0 | exact (b7 _ (by omega)).1 | exact (b10 _ (by omega)).1 | (refine (xup_n (by omega)).trans ?_; first | assumption | exact xup_s | exact o0 | exact (b7 _ (by omega)).1 | exact (b10 _ (by omega)).1) | (refine (xup_n (by omega)).trans ((xup_n (by omega)).trans ?_); first | assumption | exact xup_s | exact o0 | exact (b7 _ (by omega)).1 | exact (b10 _ (by omega)).1) | (refine (xup_n (by omega)).trans ((xup_n (by omega)).trans ((xup_n (by omega)).trans ?_)); first | assumption | exact xup_s | exact o0 | exact (b7 _ (by omega)).1 | exact (b10 _ (by omega)).1)) (by rfl)) rfl (e_140 o0 hB h32 (fun hq => ?_) (fun hq => ?_))
    · refine xK_v rfl ?_
      refine xs_f 12 (lv2 := [(3, _), (0, _), (1, _), (2, _)]) r_142_11 rfl ?_
      refine xs_f 13 r_142_12 rfl ?_
      refine xs_f 14 r_142_13 rfl ?_
      refine xs_call (lv2 := [(0, _), (1, _)]) r_142_14 rfl rfl (by decide) (xcan_0 rfl rfl (by first | assumption | exact xup_s | exact o0 | exact (b7 _ (by omega)).1 | exact (b10 _ (by omega)).1 | (refine (xup_n (by omega)).trans ?_; first | assumption | exact xup_s | exact o0 | exact (b7 _ (by omega)).1 | exact (b10 _ (by omega)).1) | (refine (xup_n (by omega)).trans ((xup_n (by omega)).trans ?_); first | assumption | exact xup_s | exact o0 | exact (b7 _ (by omega)).1 | exact (b10 _ (by omega)).1) | (refine (xup_n (by omega)).trans ((xup_n (by omega)).trans ((xup_n (by omega)).trans ?_)); first | assumption | exact xup_s | exact o0 | exact (b7 _ (by omega)).1 | exact (b10 _ (by omega)).1)) (by rfl)) rfl (c_78r (b10 (pla q no n) (by omega)) (by omega) (fun hr => ?_) (fun hr => ?_))
      · have z9 := (b10 (pla q no n) (by omega)).2.1
        refine xK_v rfl ?_
        refine xs_f 19 (lv2 := [(4, _), (3, _), (0, _), (1, _), (2, _)]) r_142_17 rfl ?_
        refine xs_f 21 r_142_19 rfl ?_
        refine xs_f 22 r_142_21 rfl ?_
        refine xs_if 25 36 r_142_22 rfl (fun hc1 => ?_) (fun hc1 => ?_)
        · exact absurd hc1 (nI_m1 rfl (by omega))
        · refine xs_f 37 r_142_36 rfl ?_
          refine xs_get 40 r_142_37 rfl rfl (by first | assumption | exact xup_s | exact o0 | exact (b7 _ (by omega)).1 | exact (b10 _ (by omega)).1 | (refine (xup_n (by omega)).trans ?_; first | assumption | exact xup_s | exact o0 | exact (b7 _ (by omega)).1 | exact (b10 _ (by omega)).1) | (refine (xup_n (by omega)).trans ((xup_n (by omega)).trans ?_); first | assumption | exact xup_s | exact o0 | exact (b7 _ (by omega)).1 | exact (b10 _ (by omega)).1) | (refine (xup_n (by omega)).trans ((xup_n (by omega)).trans ((xup_n (by omega)).trans ?_)); first | assumption | exact xup_s | exact o0 | exact (b7 _ (by omega)).1 | exact (b10 _ (by omega)).1)) (by rfl) ?_
          refine xs_f 42 r_142_40 rfl ?_
          refine xs_aldR 43 r_142_42 (fun _ _ => rfl) rfl rfl rfl (j := (rnk (q (pla q no n)).2.2.2 (q (pla q no n)).2.2.1 p)) rfl (by first | assumption | exact (b10 _ (by omega)).2.2.1 | (refine RA.fr ?_ (xup_n (by omega)); first | assumption | exact (b10 _ (by omega)).2.2.1) | (refine RA.fr (RA.fr ?_ (xup_n (by omega))) (xup_n (by omega)); first | assumption | exact (b10 _ (by omega)).2.2.1) | (refine RA.fr (RA.fr (RA.fr ?_ (xup_n (by omega))) (xup_n (by omega))) (xup_n (by omega)); first | assumption | exact (b10 _ (by omega)).2.2.1)) (by omega) ?_
          refine xs_ret r_142_43 rfl ?_
          first | exact k1 (by rw [hpi]; exact isPl_j hi b2n) hq hr | exact ka hp | exact kb (by rw [hpi]; exact isPl_j hi b2n) (by omega)
      · refine xK_v rfl ?_
        refine xs_f 19 (lv2 := [(4, _), (3, _), (0, _), (1, _), (2, _)]) r_142_17 rfl ?_
        refine xs_f 21 r_142_19 rfl ?_
        refine xs_f 22 r_142_21 rfl ?_
        refine xs_f 25 r_142_22 rfl ?_
        refine xs_thr r_142_25 rfl ?_
        first | exact k1 (by rw [hpi]; exact isPl_j hi b2n) hq hr | exact ka hp | exact kb (by rw [hpi]; exact isPl_j hi b2n) (by omega)
    · refine xK_e rfl rfl ?_
      first | exact k1 (by rw [hpi]; exact isPl_j hi b2n) hq hr | exact ka hp | exact kb (by rw [hpi]; exact isPl_j hi b2n) (by omega)
  · refine xK_e rfl rfl ?_
    first | exact k1 (by rw [hpi]; exact isPl_j hi b2n) hq hr | exact ka hp | exact kb (by rw [hpi]; exact isPl_j hi b2n) (by omega)

theorem e_90 {S : XSc} {d : Nat} {h : XH} {Q : XO → XH → Prop} {b np no : Nat} {nn : Int32} {sc : Nat} {ho : Int32} {TS TH tr : Nat → Int32} {pl : Nat → XPl} {q : Nat → XQu} {s : Nat → Nat} {R : Nat → Nat → Nat} {e w1 w2 w3 w4 w5 : Nat} {i1 i2 i3 : Int32} (o0 : h.1 e = some (.inr (8, [.ref b, .ref w1, .ref w2, .ref w3, .ref w4, .ref w5, .int i1, .int i2, .int i3]))) (hB : BdP h.1 b np no nn sc ho TS TH tr pl q s R) (h32 : 32 ≤ b) (k : Q (.inl (some (.int (nI np)))) h) : xP S d 90 0 [(0, .ref e)] [] h Q := by
  obtain ⟨b1, ⟨b2n, b2o, b2s⟩, b3, b4, b5, b6, b7, b8, b9, b10⟩ := id hB
  refine xs_f 1 r_90_0 rfl ?_
  refine xs_get 4 r_90_1 rfl rfl (by first | assumption | exact xup_s | exact o0 | exact (b7 _ (by omega)).1 | exact (b10 _ (by omega)).1 | (refine (xup_n (by omega)).trans ?_; first | assumption | exact xup_s | exact o0 | exact (b7 _ (by omega)).1 | exact (b10 _ (by omega)).1) | (refine (xup_n (by omega)).trans ((xup_n (by omega)).trans ?_); first | assumption | exact xup_s | exact o0 | exact (b7 _ (by omega)).1 | exact (b10 _ (by omega)).1) | (refine (xup_n (by omega)).trans ((xup_n (by omega)).trans ((xup_n (by omega)).trans ?_)); first | assumption | exact xup_s | exact o0 | exact (b7 _ (by omega)).1 | exact (b10 _ (by omega)).1)) (by rfl) ?_
  refine xs_get 7 r_90_4 rfl rfl (by first | assumption | exact xup_s | exact o0 | exact (b7 _ (by omega)).1 | exact (b10 _ (by omega)).1 | (refine (xup_n (by omega)).trans ?_; first | assumption | exact xup_s | exact o0 | exact (b7 _ (by omega)).1 | exact (b10 _ (by omega)).1) | (refine (xup_n (by omega)).trans ((xup_n (by omega)).trans ?_); first | assumption | exact xup_s | exact o0 | exact (b7 _ (by omega)).1 | exact (b10 _ (by omega)).1) | (refine (xup_n (by omega)).trans ((xup_n (by omega)).trans ((xup_n (by omega)).trans ?_)); first | assumption | exact xup_s | exact o0 | exact (b7 _ (by omega)).1 | exact (b10 _ (by omega)).1)) (by rfl) ?_
  refine xs_ret r_90_7 rfl ?_
  exact k

theorem e_93 {S : XSc} {d : Nat} {h : XH} {Q : XO → XH → Prop} {b np no : Nat} {nn : Int32} {sc : Nat} {ho : Int32} {TS TH tr : Nat → Int32} {pl : Nat → XPl} {q : Nat → XQu} {s : Nat → Nat} {R : Nat → Nat → Nat} {e w1 w2 w3 w4 w5 : Nat} {i1 i2 i3 : Int32} (o0 : h.1 e = some (.inr (8, [.ref b, .ref w1, .ref w2, .ref w3, .ref w4, .ref w5, .int i1, .int i2, .int i3]))) (hB : BdP h.1 b np no nn sc ho TS TH tr pl q s R) (h32 : 32 ≤ b) (k : Q (.inl (some (.int ho))) h) : xP S d 93 0 [(0, .ref e)] [] h Q := by
  obtain ⟨b1, ⟨b2n, b2o, b2s⟩, b3, b4, b5, b6, b7, b8, b9, b10⟩ := id hB
  refine xs_f 1 r_93_0 rfl ?_
  refine xs_get 4 r_93_1 rfl rfl (by first | assumption | exact xup_s | exact o0 | exact (b7 _ (by omega)).1 | exact (b10 _ (by omega)).1 | (refine (xup_n (by omega)).trans ?_; first | assumption | exact xup_s | exact o0 | exact (b7 _ (by omega)).1 | exact (b10 _ (by omega)).1) | (refine (xup_n (by omega)).trans ((xup_n (by omega)).trans ?_); first | assumption | exact xup_s | exact o0 | exact (b7 _ (by omega)).1 | exact (b10 _ (by omega)).1) | (refine (xup_n (by omega)).trans ((xup_n (by omega)).trans ((xup_n (by omega)).trans ?_)); first | assumption | exact xup_s | exact o0 | exact (b7 _ (by omega)).1 | exact (b10 _ (by omega)).1)) (by rfl) ?_
  refine xs_get 7 r_93_4 rfl rfl (by first | assumption | exact xup_s | exact o0 | exact (b7 _ (by omega)).1 | exact (b10 _ (by omega)).1 | (refine (xup_n (by omega)).trans ?_; first | assumption | exact xup_s | exact o0 | exact (b7 _ (by omega)).1 | exact (b10 _ (by omega)).1) | (refine (xup_n (by omega)).trans ((xup_n (by omega)).trans ?_); first | assumption | exact xup_s | exact o0 | exact (b7 _ (by omega)).1 | exact (b10 _ (by omega)).1) | (refine (xup_n (by omega)).trans ((xup_n (by omega)).trans ((xup_n (by omega)).trans ?_)); first | assumption | exact xup_s | exact o0 | exact (b7 _ (by omega)).1 | exact (b10 _ (by omega)).1)) (by rfl) ?_
  refine xs_ret r_93_7 rfl ?_
  exact k

theorem e_95 {S : XSc} {d : Nat} {h : XH} {Q : XO → XH → Prop} {b np no : Nat} {nn : Int32} {sc : Nat} {ho : Int32} {TS TH tr : Nat → Int32} {pl : Nat → XPl} {q : Nat → XQu} {s : Nat → Nat} {R : Nat → Nat → Nat} {e w1 w2 w3 w4 w5 : Nat} {i1 i2 i3 : Int32} (o0 : h.1 e = some (.inr (8, [.ref b, .ref w1, .ref w2, .ref w3, .ref w4, .ref w5, .int i1, .int i2, .int i3]))) (hB : BdP h.1 b np no nn sc ho TS TH tr pl q s R) (h32 : 32 ≤ b) (k : Q (.inl (some (.int (nI no)))) h) : xP S d 95 0 [(0, .ref e)] [] h Q := by
  obtain ⟨b1, ⟨b2n, b2o, b2s⟩, b3, b4, b5, b6, b7, b8, b9, b10⟩ := id hB
  refine xs_f 1 r_95_0 rfl ?_
  refine xs_get 4 r_95_1 rfl rfl (by first | assumption | exact xup_s | exact o0 | exact (b7 _ (by omega)).1 | exact (b10 _ (by omega)).1 | (refine (xup_n (by omega)).trans ?_; first | assumption | exact xup_s | exact o0 | exact (b7 _ (by omega)).1 | exact (b10 _ (by omega)).1) | (refine (xup_n (by omega)).trans ((xup_n (by omega)).trans ?_); first | assumption | exact xup_s | exact o0 | exact (b7 _ (by omega)).1 | exact (b10 _ (by omega)).1) | (refine (xup_n (by omega)).trans ((xup_n (by omega)).trans ((xup_n (by omega)).trans ?_)); first | assumption | exact xup_s | exact o0 | exact (b7 _ (by omega)).1 | exact (b10 _ (by omega)).1)) (by rfl) ?_
  refine xs_get 7 r_95_4 rfl rfl (by first | assumption | exact xup_s | exact o0 | exact (b7 _ (by omega)).1 | exact (b10 _ (by omega)).1 | (refine (xup_n (by omega)).trans ?_; first | assumption | exact xup_s | exact o0 | exact (b7 _ (by omega)).1 | exact (b10 _ (by omega)).1) | (refine (xup_n (by omega)).trans ((xup_n (by omega)).trans ?_); first | assumption | exact xup_s | exact o0 | exact (b7 _ (by omega)).1 | exact (b10 _ (by omega)).1) | (refine (xup_n (by omega)).trans ((xup_n (by omega)).trans ((xup_n (by omega)).trans ?_)); first | assumption | exact xup_s | exact o0 | exact (b7 _ (by omega)).1 | exact (b10 _ (by omega)).1)) (by rfl) ?_
  refine xs_ret r_95_7 rfl ?_
  exact k

theorem e_111 {S : XSc} {d : Nat} {h : XH} {Q : XO → XH → Prop} {b np no : Nat} {nn : Int32} {sc : Nat} {ho : Int32} {TS TH tr : Nat → Int32} {pl : Nat → XPl} {q : Nat → XQu} {s : Nat → Nat} {R : Nat → Nat → Nat} {e w1 w2 w3 w4 w5 : Nat} {i1 i2 i3 : Int32} (o0 : h.1 e = some (.inr (8, [.ref b, .ref w1, .ref w2, .ref w3, .ref w4, .ref w5, .int i1, .int i2, .int i3]))) (hB : BdP h.1 b np no nn sc ho TS TH tr pl q s R) (h32 : 32 ≤ b) (k : Q (.inl (some (.int (nI sc)))) h) : xP S d 111 0 [(0, .ref e)] [] h Q := by
  obtain ⟨b1, ⟨b2n, b2o, b2s⟩, b3, b4, b5, b6, b7, b8, b9, b10⟩ := id hB
  refine xs_f 1 r_111_0 rfl ?_
  refine xs_get 4 r_111_1 rfl rfl (by first | assumption | exact xup_s | exact o0 | exact (b7 _ (by omega)).1 | exact (b10 _ (by omega)).1 | (refine (xup_n (by omega)).trans ?_; first | assumption | exact xup_s | exact o0 | exact (b7 _ (by omega)).1 | exact (b10 _ (by omega)).1) | (refine (xup_n (by omega)).trans ((xup_n (by omega)).trans ?_); first | assumption | exact xup_s | exact o0 | exact (b7 _ (by omega)).1 | exact (b10 _ (by omega)).1) | (refine (xup_n (by omega)).trans ((xup_n (by omega)).trans ((xup_n (by omega)).trans ?_)); first | assumption | exact xup_s | exact o0 | exact (b7 _ (by omega)).1 | exact (b10 _ (by omega)).1)) (by rfl) ?_
  refine xs_get 7 r_111_4 rfl rfl (by first | assumption | exact xup_s | exact o0 | exact (b7 _ (by omega)).1 | exact (b10 _ (by omega)).1 | (refine (xup_n (by omega)).trans ?_; first | assumption | exact xup_s | exact o0 | exact (b7 _ (by omega)).1 | exact (b10 _ (by omega)).1) | (refine (xup_n (by omega)).trans ((xup_n (by omega)).trans ?_); first | assumption | exact xup_s | exact o0 | exact (b7 _ (by omega)).1 | exact (b10 _ (by omega)).1) | (refine (xup_n (by omega)).trans ((xup_n (by omega)).trans ((xup_n (by omega)).trans ?_)); first | assumption | exact xup_s | exact o0 | exact (b7 _ (by omega)).1 | exact (b10 _ (by omega)).1)) (by rfl) ?_
  refine xs_ret r_111_7 rfl ?_
  exact k

theorem e_94 {S : XSc} {d : Nat} {h : XH} {Q : XO → XH → Prop} {b np no : Nat} {nn : Int32} {sc : Nat} {ho : Int32} {TS TH tr : Nat → Int32} {pl : Nat → XPl} {q : Nat → XQu} {s : Nat → Nat} {R : Nat → Nat → Nat} {e w1 w2 w3 w4 w5 : Nat} {i1 i2 i3 : Int32} (o0 : h.1 e = some (.inr (8, [.ref b, .ref w1, .ref w2, .ref w3, .ref w4, .ref w5, .int i1, .int i2, .int i3]))) (hB : BdP h.1 b np no nn sc ho TS TH tr pl q s R) (h32 : 32 ≤ b) (k : Q (.inl (some (.int (xsum (fun i => stkQ (q i)) no)))) h) : xP S (d + 2) 94 0 [(0, .ref e)] [] h Q := by
  obtain ⟨b1, ⟨b2n, b2o, b2s⟩, b3, b4, b5, b6, b7, b8, b9, b10⟩ := id hB
  refine xs_f 1 r_94_0 rfl ?_
  refine xs_get 4 r_94_1 rfl rfl (by first | assumption | exact xup_s | exact o0 | exact (b7 _ (by omega)).1 | exact (b10 _ (by omega)).1 | (refine (xup_n (by omega)).trans ?_; first | assumption | exact xup_s | exact o0 | exact (b7 _ (by omega)).1 | exact (b10 _ (by omega)).1) | (refine (xup_n (by omega)).trans ((xup_n (by omega)).trans ?_); first | assumption | exact xup_s | exact o0 | exact (b7 _ (by omega)).1 | exact (b10 _ (by omega)).1) | (refine (xup_n (by omega)).trans ((xup_n (by omega)).trans ((xup_n (by omega)).trans ?_)); first | assumption | exact xup_s | exact o0 | exact (b7 _ (by omega)).1 | exact (b10 _ (by omega)).1)) (by rfl) ?_
  refine xs_call (lv2 := [(0, _)]) r_94_4 rfl rfl (by decide) (xcan_0 rfl rfl (by first | assumption | exact xup_s | exact o0 | exact (b7 _ (by omega)).1 | exact (b10 _ (by omega)).1 | (refine (xup_n (by omega)).trans ?_; first | assumption | exact xup_s | exact o0 | exact (b7 _ (by omega)).1 | exact (b10 _ (by omega)).1) | (refine (xup_n (by omega)).trans ((xup_n (by omega)).trans ?_); first | assumption | exact xup_s | exact o0 | exact (b7 _ (by omega)).1 | exact (b10 _ (by omega)).1) | (refine (xup_n (by omega)).trans ((xup_n (by omega)).trans ((xup_n (by omega)).trans ?_)); first | assumption | exact xup_s | exact o0 | exact (b7 _ (by omega)).1 | exact (b10 _ (by omega)).1)) (by rfl)) rfl (c_29 hB h32 ?_)
  refine xK_v rfl ?_
  refine xs_ret r_94_7 rfl ?_
  exact k

theorem e_91 {S : XSc} {d : Nat} {h : XH} {Q : XO → XH → Prop} {b np no : Nat} {nn : Int32} {sc : Nat} {ho : Int32} {TS TH tr : Nat → Int32} {pl : Nat → XPl} {q : Nat → XQu} {s : Nat → Nat} {R : Nat → Nat → Nat} {e w1 w2 w3 w4 w5 : Nat} {i1 i2 i3 : Int32} (o0 : h.1 e = some (.inr (8, [.ref b, .ref w1, .ref w2, .ref w3, .ref w4, .ref w5, .int i1, .int i2, .int i3]))) (hB : BdP h.1 b np no nn sc ho TS TH tr pl q s R) (h32 : 32 ≤ b) {p : Int32} (k0 : (R_pl np p (fun i => (pl i).1)).1 = 0 → Q (.inl (some (.int (R_pl np p (fun i => (pl i).1)).2))) h) (k1 : (R_pl np p (fun i => (pl i).1)).1 = 1 → Q (.inr 2) (xbump h)) : xP S (d + 2) 91 0 [(0, .ref e), (1, .int p)] [] h Q := by
  obtain ⟨b1, ⟨b2n, b2o, b2s⟩, b3, b4, b5, b6, b7, b8, b9, b10⟩ := id hB
  refine xs_f 1 r_91_0 rfl ?_
  refine xs_f 2 r_91_1 rfl ?_
  refine xs_call (lv2 := [(0, _), (1, _)]) r_91_2 rfl rfl (by decide) (xcan_0 rfl rfl (by first | assumption | exact xup_s | exact o0 | exact (b7 _ (by omega)).1 | exact (b10 _ (by omega)).1 | (refine (xup_n (by omega)).trans ?_; first | assumption | exact xup_s | exact o0 | exact (b7 _ (by omega)).1 | exact (b10 _ (by omega)).1) | (refine (xup_n (by omega)).trans ((xup_n (by omega)).trans ?_); first | assumption | exact xup_s | exact o0 | exact (b7 _ (by omega)).1 | exact (b10 _ (by omega)).1) | (refine (xup_n (by omega)).trans ((xup_n (by omega)).trans ((xup_n (by omega)).trans ?_)); first | assumption | exact xup_s | exact o0 | exact (b7 _ (by omega)).1 | exact (b10 _ (by omega)).1)) (by rfl)) rfl (e_139 o0 hB h32 (fun i hi hpi => ?_) (fun hp => ?_))
  · have hcl : p.toNatClampNeg = i := by rw [hpi]; exact nI_clamp (by omega)
    have hp : isPl np p := by rw [hpi]; exact isPl_j hi b2n
    refine xK_v rfl ?_
    refine xs_get 8 r_91_5 rfl rfl (by first | assumption | exact xup_s | exact o0 | exact (b7 _ (by omega)).1 | exact (b10 _ (by omega)).1 | (refine (xup_n (by omega)).trans ?_; first | assumption | exact xup_s | exact o0 | exact (b7 _ (by omega)).1 | exact (b10 _ (by omega)).1) | (refine (xup_n (by omega)).trans ((xup_n (by omega)).trans ?_); first | assumption | exact xup_s | exact o0 | exact (b7 _ (by omega)).1 | exact (b10 _ (by omega)).1) | (refine (xup_n (by omega)).trans ((xup_n (by omega)).trans ((xup_n (by omega)).trans ?_)); first | assumption | exact xup_s | exact o0 | exact (b7 _ (by omega)).1 | exact (b10 _ (by omega)).1)) (by rfl) ?_
    refine xs_ret r_91_8 rfl ?_
    first
      | exact cq0 k0 ((if_pos hp).trans (by rw [hcl]))
      | exact cqx k1 (if_neg hp)
  · refine xK_e rfl rfl ?_
    first
      | exact cq0 k0 ((if_pos hp).trans (by rw [hcl]))
      | exact cqx k1 (if_neg hp)

theorem e_115 {S : XSc} {d : Nat} {h : XH} {Q : XO → XH → Prop} {b np no : Nat} {nn : Int32} {sc : Nat} {ho : Int32} {TS TH tr : Nat → Int32} {pl : Nat → XPl} {q : Nat → XQu} {s : Nat → Nat} {R : Nat → Nat → Nat} {e w1 w2 w3 w4 w5 : Nat} {i1 i2 i3 : Int32} (o0 : h.1 e = some (.inr (8, [.ref b, .ref w1, .ref w2, .ref w3, .ref w4, .ref w5, .int i1, .int i2, .int i3]))) (hB : BdP h.1 b np no nn sc ho TS TH tr pl q s R) (h32 : 32 ≤ b) {p : Int32} (k0 : (R_pl np p (fun i => (pl i).2.1)).1 = 0 → Q (.inl (some (.int (R_pl np p (fun i => (pl i).2.1)).2))) h) (k1 : (R_pl np p (fun i => (pl i).2.1)).1 = 1 → Q (.inr 2) (xbump h)) : xP S (d + 2) 115 0 [(0, .ref e), (1, .int p)] [] h Q := by
  obtain ⟨b1, ⟨b2n, b2o, b2s⟩, b3, b4, b5, b6, b7, b8, b9, b10⟩ := id hB
  refine xs_f 1 r_115_0 rfl ?_
  refine xs_f 2 r_115_1 rfl ?_
  refine xs_call (lv2 := [(0, _), (1, _)]) r_115_2 rfl rfl (by decide) (xcan_0 rfl rfl (by first | assumption | exact xup_s | exact o0 | exact (b7 _ (by omega)).1 | exact (b10 _ (by omega)).1 | (refine (xup_n (by omega)).trans ?_; first | assumption | exact xup_s | exact o0 | exact (b7 _ (by omega)).1 | exact (b10 _ (by omega)).1) | (refine (xup_n (by omega)).trans ((xup_n (by omega)).trans ?_); first | assumption | exact xup_s | exact o0 | exact (b7 _ (by omega)).1 | exact (b10 _ (by omega)).1) | (refine (xup_n (by omega)).trans ((xup_n (by omega)).trans ((xup_n (by omega)).trans ?_)); first | assumption | exact xup_s | exact o0 | exact (b7 _ (by omega)).1 | exact (b10 _ (by omega)).1)) (by rfl)) rfl (e_139 o0 hB h32 (fun i hi hpi => ?_) (fun hp => ?_))
  · have hcl : p.toNatClampNeg = i := by rw [hpi]; exact nI_clamp (by omega)
    have hp : isPl np p := by rw [hpi]; exact isPl_j hi b2n
    refine xK_v rfl ?_
    refine xs_get 8 r_115_5 rfl rfl (by first | assumption | exact xup_s | exact o0 | exact (b7 _ (by omega)).1 | exact (b10 _ (by omega)).1 | (refine (xup_n (by omega)).trans ?_; first | assumption | exact xup_s | exact o0 | exact (b7 _ (by omega)).1 | exact (b10 _ (by omega)).1) | (refine (xup_n (by omega)).trans ((xup_n (by omega)).trans ?_); first | assumption | exact xup_s | exact o0 | exact (b7 _ (by omega)).1 | exact (b10 _ (by omega)).1) | (refine (xup_n (by omega)).trans ((xup_n (by omega)).trans ((xup_n (by omega)).trans ?_)); first | assumption | exact xup_s | exact o0 | exact (b7 _ (by omega)).1 | exact (b10 _ (by omega)).1)) (by rfl) ?_
    refine xs_ret r_115_8 rfl ?_
    first
      | exact cq0 k0 ((if_pos hp).trans (by rw [hcl]))
      | exact cqx k1 (if_neg hp)
  · refine xK_e rfl rfl ?_
    first
      | exact cq0 k0 ((if_pos hp).trans (by rw [hcl]))
      | exact cqx k1 (if_neg hp)

theorem e_92 {S : XSc} {d : Nat} {h : XH} {Q : XO → XH → Prop} {b np no : Nat} {nn : Int32} {sc : Nat} {ho : Int32} {TS TH tr : Nat → Int32} {pl : Nat → XPl} {q : Nat → XQu} {s : Nat → Nat} {R : Nat → Nat → Nat} {e w1 w2 w3 w4 w5 : Nat} {i1 i2 i3 : Int32} (o0 : h.1 e = some (.inr (8, [.ref b, .ref w1, .ref w2, .ref w3, .ref w4, .ref w5, .int i1, .int i2, .int i3]))) (hB : BdP h.1 b np no nn sc ho TS TH tr pl q s R) (h32 : 32 ≤ b) {p : Int32} (k0 : (R_pl np p (fun i => bI (pl i).2.2.1)).1 = 0 → Q (.inl (some (.int (R_pl np p (fun i => bI (pl i).2.2.1)).2))) h) (k1 : (R_pl np p (fun i => bI (pl i).2.2.1)).1 = 1 → Q (.inr 2) (xbump h)) : xP S (d + 2) 92 0 [(0, .ref e), (1, .int p)] [] h Q := by
  obtain ⟨b1, ⟨b2n, b2o, b2s⟩, b3, b4, b5, b6, b7, b8, b9, b10⟩ := id hB
  refine xs_f 1 r_92_0 rfl ?_
  refine xs_f 2 r_92_1 rfl ?_
  refine xs_call (lv2 := [(0, _), (1, _)]) r_92_2 rfl rfl (by decide) (xcan_0 rfl rfl (by first | assumption | exact xup_s | exact o0 | exact (b7 _ (by omega)).1 | exact (b10 _ (by omega)).1 | (refine (xup_n (by omega)).trans ?_; first | assumption | exact xup_s | exact o0 | exact (b7 _ (by omega)).1 | exact (b10 _ (by omega)).1) | (refine (xup_n (by omega)).trans ((xup_n (by omega)).trans ?_); first | assumption | exact xup_s | exact o0 | exact (b7 _ (by omega)).1 | exact (b10 _ (by omega)).1) | (refine (xup_n (by omega)).trans ((xup_n (by omega)).trans ((xup_n (by omega)).trans ?_)); first | assumption | exact xup_s | exact o0 | exact (b7 _ (by omega)).1 | exact (b10 _ (by omega)).1)) (by rfl)) rfl (e_139 o0 hB h32 (fun i hi hpi => ?_) (fun hp => ?_))
  · have hcl : p.toNatClampNeg = i := by rw [hpi]; exact nI_clamp (by omega)
    have hp : isPl np p := by rw [hpi]; exact isPl_j hi b2n
    refine xK_v rfl ?_
    refine xs_get 8 r_92_5 rfl rfl (by first | assumption | exact xup_s | exact o0 | exact (b7 _ (by omega)).1 | exact (b10 _ (by omega)).1 | (refine (xup_n (by omega)).trans ?_; first | assumption | exact xup_s | exact o0 | exact (b7 _ (by omega)).1 | exact (b10 _ (by omega)).1) | (refine (xup_n (by omega)).trans ((xup_n (by omega)).trans ?_); first | assumption | exact xup_s | exact o0 | exact (b7 _ (by omega)).1 | exact (b10 _ (by omega)).1) | (refine (xup_n (by omega)).trans ((xup_n (by omega)).trans ((xup_n (by omega)).trans ?_)); first | assumption | exact xup_s | exact o0 | exact (b7 _ (by omega)).1 | exact (b10 _ (by omega)).1)) (by rfl) ?_
    refine xs_ret r_92_8 (bI_ret _) ?_
    first
      | exact cq0 k0 ((if_pos hp).trans (by rw [hcl]))
      | exact cqx k1 (if_neg hp)
  · refine xK_e rfl rfl ?_
    first
      | exact cq0 k0 ((if_pos hp).trans (by rw [hcl]))
      | exact cqx k1 (if_neg hp)

theorem e_114 {S : XSc} {d : Nat} {h : XH} {Q : XO → XH → Prop} {b np no : Nat} {nn : Int32} {sc : Nat} {ho : Int32} {TS TH tr : Nat → Int32} {pl : Nat → XPl} {q : Nat → XQu} {s : Nat → Nat} {R : Nat → Nat → Nat} {e w1 w2 w3 w4 w5 : Nat} {i1 i2 i3 : Int32} (o0 : h.1 e = some (.inr (8, [.ref b, .ref w1, .ref w2, .ref w3, .ref w4, .ref w5, .int i1, .int i2, .int i3]))) (hB : BdP h.1 b np no nn sc ho TS TH tr pl q s R) (h32 : 32 ≤ b) {p : Int32} (k0 : (R_pl np p (fun i => htP (pl i))).1 = 0 → Q (.inl (some (.int (R_pl np p (fun i => htP (pl i))).2))) h) (k1 : (R_pl np p (fun i => htP (pl i))).1 = 1 → Q (.inr 2) (xbump h)) : xP S (d + 2) 114 0 [(0, .ref e), (1, .int p)] [] h Q := by
  obtain ⟨b1, ⟨b2n, b2o, b2s⟩, b3, b4, b5, b6, b7, b8, b9, b10⟩ := id hB
  refine xs_f 1 r_114_0 rfl ?_
  refine xs_f 2 r_114_1 rfl ?_
  refine xs_call (lv2 := [(0, _), (1, _)]) r_114_2 rfl rfl (by decide) (xcan_0 rfl rfl (by first | assumption | exact xup_s | exact (b7 _ (by omega)).2.1 | exact o0 | exact (b7 _ (by omega)).1 | exact (b10 _ (by omega)).1 | (refine (xup_n (by omega)).trans ?_; first | assumption | exact xup_s | exact (b7 _ (by omega)).2.1 | exact o0 | exact (b7 _ (by omega)).1 | exact (b10 _ (by omega)).1) | (refine (xup_n (by omega)).trans ((xup_n (by omega)).trans ?_); first | assumption | exact xup_s | exact (b7 _ (by omega)).2.1 | exact o0 | exact (b7 _ (by omega)).1 | exact (b10 _ (by omega)).1) | (refine (xup_n (by omega)).trans ((xup_n (by omega)).trans ((xup_n (by omega)).trans ?_)); first | assumption | exact xup_s | exact (b7 _ (by omega)).2.1 | exact o0 | exact (b7 _ (by omega)).1 | exact (b10 _ (by omega)).1)) (by rfl)) rfl (e_139 o0 hB h32 (fun i hi hpi => ?_) (fun hp => ?_))
  · have hcl : p.toNatClampNeg = i := by rw [hpi]; exact nI_clamp (by omega)
    have hp : isPl np p := by rw [hpi]; exact isPl_j hi b2n
    refine xK_v rfl ?_
    refine xs_get 8 r_114_5 rfl rfl (by first | assumption | exact xup_s | exact (b7 _ (by omega)).2.1 | exact o0 | exact (b7 _ (by omega)).1 | exact (b10 _ (by omega)).1 | (refine (xup_n (by omega)).trans ?_; first | assumption | exact xup_s | exact (b7 _ (by omega)).2.1 | exact o0 | exact (b7 _ (by omega)).1 | exact (b10 _ (by omega)).1) | (refine (xup_n (by omega)).trans ((xup_n (by omega)).trans ?_); first | assumption | exact xup_s | exact (b7 _ (by omega)).2.1 | exact o0 | exact (b7 _ (by omega)).1 | exact (b10 _ (by omega)).1) | (refine (xup_n (by omega)).trans ((xup_n (by omega)).trans ((xup_n (by omega)).trans ?_)); first | assumption | exact xup_s | exact (b7 _ (by omega)).2.1 | exact o0 | exact (b7 _ (by omega)).1 | exact (b10 _ (by omega)).1)) (by rfl) ?_
    refine xs_call (lv2 := [(0, _)]) r_114_8 rfl rfl (by decide) (xcan_0 rfl rfl (by first | assumption | exact xup_s | exact (b7 _ (by omega)).2.1 | exact o0 | exact (b7 _ (by omega)).1 | exact (b10 _ (by omega)).1 | (refine (xup_n (by omega)).trans ?_; first | assumption | exact xup_s | exact (b7 _ (by omega)).2.1 | exact o0 | exact (b7 _ (by omega)).1 | exact (b10 _ (by omega)).1) | (refine (xup_n (by omega)).trans ((xup_n (by omega)).trans ?_); first | assumption | exact xup_s | exact (b7 _ (by omega)).2.1 | exact o0 | exact (b7 _ (by omega)).1 | exact (b10 _ (by omega)).1) | (refine (xup_n (by omega)).trans ((xup_n (by omega)).trans ((xup_n (by omega)).trans ?_)); first | assumption | exact xup_s | exact (b7 _ (by omega)).2.1 | exact o0 | exact (b7 _ (by omega)).1 | exact (b10 _ (by omega)).1)) (by rfl)) rfl (c_7 (b7 i (by omega)).2 (by omega) ?_)
    refine xK_v rfl ?_
    refine xs_ret r_114_11 rfl ?_
    first
      | exact cq0 k0 ((if_pos hp).trans (by rw [hcl]; rfl))
      | exact cqx k1 (if_neg hp)
  · refine xK_e rfl rfl ?_
    first
      | exact cq0 k0 ((if_pos hp).trans (by rw [hcl]; rfl))
      | exact cqx k1 (if_neg hp)

theorem e_117 {S : XSc} {d : Nat} {h : XH} {Q : XO → XH → Prop} {b np no : Nat} {nn : Int32} {sc : Nat} {ho : Int32} {TS TH tr : Nat → Int32} {pl : Nat → XPl} {q : Nat → XQu} {s : Nat → Nat} {R : Nat → Nat → Nat} {e w1 w2 w3 w4 w5 : Nat} {i1 i2 i3 : Int32} (o0 : h.1 e = some (.inr (8, [.ref b, .ref w1, .ref w2, .ref w3, .ref w4, .ref w5, .int i1, .int i2, .int i3]))) (hB : BdP h.1 b np no nn sc ho TS TH tr pl q s R) (h32 : 32 ≤ b) {p : Int32} (k0 : (R_pl np p (fun i => errP (pl i))).1 = 0 → Q (.inl (some (.int (R_pl np p (fun i => errP (pl i))).2))) h) (k1 : (R_pl np p (fun i => errP (pl i))).1 = 1 → Q (.inr 2) (xbump h)) : xP S (d + 2) 117 0 [(0, .ref e), (1, .int p)] [] h Q := by
  obtain ⟨b1, ⟨b2n, b2o, b2s⟩, b3, b4, b5, b6, b7, b8, b9, b10⟩ := id hB
  refine xs_f 1 r_117_0 rfl ?_
  refine xs_f 2 r_117_1 rfl ?_
  refine xs_call (lv2 := [(0, _), (1, _)]) r_117_2 rfl rfl (by decide) (xcan_0 rfl rfl (by first | assumption | exact xup_s | exact (b7 _ (by omega)).2.1 | exact o0 | exact (b7 _ (by omega)).1 | exact (b10 _ (by omega)).1 | (refine (xup_n (by omega)).trans ?_; first | assumption | exact xup_s | exact (b7 _ (by omega)).2.1 | exact o0 | exact (b7 _ (by omega)).1 | exact (b10 _ (by omega)).1) | (refine (xup_n (by omega)).trans ((xup_n (by omega)).trans ?_); first | assumption | exact xup_s | exact (b7 _ (by omega)).2.1 | exact o0 | exact (b7 _ (by omega)).1 | exact (b10 _ (by omega)).1) | (refine (xup_n (by omega)).trans ((xup_n (by omega)).trans ((xup_n (by omega)).trans ?_)); first | assumption | exact xup_s | exact (b7 _ (by omega)).2.1 | exact o0 | exact (b7 _ (by omega)).1 | exact (b10 _ (by omega)).1)) (by rfl)) rfl (e_139 o0 hB h32 (fun i hi hpi => ?_) (fun hp => ?_))
  · have hcl : p.toNatClampNeg = i := by rw [hpi]; exact nI_clamp (by omega)
    have hp : isPl np p := by rw [hpi]; exact isPl_j hi b2n
    refine xK_v rfl ?_
    refine xs_get 8 r_117_5 rfl rfl (by first | assumption | exact xup_s | exact (b7 _ (by omega)).2.1 | exact o0 | exact (b7 _ (by omega)).1 | exact (b10 _ (by omega)).1 | (refine (xup_n (by omega)).trans ?_; first | assumption | exact xup_s | exact (b7 _ (by omega)).2.1 | exact o0 | exact (b7 _ (by omega)).1 | exact (b10 _ (by omega)).1) | (refine (xup_n (by omega)).trans ((xup_n (by omega)).trans ?_); first | assumption | exact xup_s | exact (b7 _ (by omega)).2.1 | exact o0 | exact (b7 _ (by omega)).1 | exact (b10 _ (by omega)).1) | (refine (xup_n (by omega)).trans ((xup_n (by omega)).trans ((xup_n (by omega)).trans ?_)); first | assumption | exact xup_s | exact (b7 _ (by omega)).2.1 | exact o0 | exact (b7 _ (by omega)).1 | exact (b10 _ (by omega)).1)) (by rfl) ?_
    refine xs_call (lv2 := [(0, _)]) r_117_8 rfl rfl (by decide) (xcan_0 rfl rfl (by first | assumption | exact xup_s | exact (b7 _ (by omega)).2.1 | exact o0 | exact (b7 _ (by omega)).1 | exact (b10 _ (by omega)).1 | (refine (xup_n (by omega)).trans ?_; first | assumption | exact xup_s | exact (b7 _ (by omega)).2.1 | exact o0 | exact (b7 _ (by omega)).1 | exact (b10 _ (by omega)).1) | (refine (xup_n (by omega)).trans ((xup_n (by omega)).trans ?_); first | assumption | exact xup_s | exact (b7 _ (by omega)).2.1 | exact o0 | exact (b7 _ (by omega)).1 | exact (b10 _ (by omega)).1) | (refine (xup_n (by omega)).trans ((xup_n (by omega)).trans ((xup_n (by omega)).trans ?_)); first | assumption | exact xup_s | exact (b7 _ (by omega)).2.1 | exact o0 | exact (b7 _ (by omega)).1 | exact (b10 _ (by omega)).1)) (by rfl)) rfl (c_8 (b7 i (by omega)).2 (by omega) ?_)
    refine xK_v rfl ?_
    refine xs_ret r_117_11 rfl ?_
    first
      | exact cq0 k0 ((if_pos hp).trans (by rw [hcl]; rfl))
      | exact cqx k1 (if_neg hp)
  · refine xK_e rfl rfl ?_
    first
      | exact cq0 k0 ((if_pos hp).trans (by rw [hcl]; rfl))
      | exact cqx k1 (if_neg hp)

theorem e_96 {S : XSc} {d : Nat} {h : XH} {Q : XO → XH → Prop} {b np no : Nat} {nn : Int32} {sc : Nat} {ho : Int32} {TS TH tr : Nat → Int32} {pl : Nat → XPl} {q : Nat → XQu} {s : Nat → Nat} {R : Nat → Nat → Nat} {e w1 w2 w3 w4 w5 : Nat} {i1 i2 i3 : Int32} (o0 : h.1 e = some (.inr (8, [.ref b, .ref w1, .ref w2, .ref w3, .ref w4, .ref w5, .int i1, .int i2, .int i3]))) (hB : BdP h.1 b np no nn sc ho TS TH tr pl q s R) (h32 : 32 ≤ b) {p : Int32} (k0 : (R_pl no p (fun i => (q i).1)).1 = 0 → Q (.inl (some (.int (R_pl no p (fun i => (q i).1)).2))) h) (k1 : (R_pl no p (fun i => (q i).1)).1 = 1 → Q (.inr 5) (xbump h)) : xP S d 96 0 [(0, .ref e), (1, .int p)] [] h Q := by
  obtain ⟨b1, ⟨b2n, b2o, b2s⟩, b3, b4, b5, b6, b7, b8, b9, b10⟩ := id hB
  refine xs_f 1 r_96_0 rfl ?_
  refine xs_if 15 4 r_96_1 rfl (fun hc1 => ?_) (fun hc1 => ?_)
  · refine xs_thr r_96_15 rfl ?_
    first
      | exact cq0 k0 ((if_pos hp).trans (by rw [hcl]))
      | exact cqx k1 (if_neg (fun z => absurd hc1 (Int32.not_lt.mpr z.1)))
      | exact cqx k1 (if_neg (fun z => hc2 z.2))
  · refine xs_f 5 r_96_4 rfl ?_
    refine xs_f 6 r_96_5 rfl ?_
    refine xs_get 9 r_96_6 rfl rfl (by first | assumption | exact xup_s | exact o0 | exact (b7 _ (by omega)).1 | exact (b10 _ (by omega)).1 | (refine (xup_n (by omega)).trans ?_; first | assumption | exact xup_s | exact o0 | exact (b7 _ (by omega)).1 | exact (b10 _ (by omega)).1) | (refine (xup_n (by omega)).trans ((xup_n (by omega)).trans ?_); first | assumption | exact xup_s | exact o0 | exact (b7 _ (by omega)).1 | exact (b10 _ (by omega)).1) | (refine (xup_n (by omega)).trans ((xup_n (by omega)).trans ((xup_n (by omega)).trans ?_)); first | assumption | exact xup_s | exact o0 | exact (b7 _ (by omega)).1 | exact (b10 _ (by omega)).1)) (by rfl) ?_
    refine xs_get 12 r_96_9 rfl rfl (by first | assumption | exact xup_s | exact o0 | exact (b7 _ (by omega)).1 | exact (b10 _ (by omega)).1 | (refine (xup_n (by omega)).trans ?_; first | assumption | exact xup_s | exact o0 | exact (b7 _ (by omega)).1 | exact (b10 _ (by omega)).1) | (refine (xup_n (by omega)).trans ((xup_n (by omega)).trans ?_); first | assumption | exact xup_s | exact o0 | exact (b7 _ (by omega)).1 | exact (b10 _ (by omega)).1) | (refine (xup_n (by omega)).trans ((xup_n (by omega)).trans ((xup_n (by omega)).trans ?_)); first | assumption | exact xup_s | exact o0 | exact (b7 _ (by omega)).1 | exact (b10 _ (by omega)).1)) (by rfl) ?_
    refine xs_if 25 15 r_96_12 rfl (fun hc2 => ?_) (fun hc2 => ?_)
    · have hp : isPl no p := ⟨Int32.not_lt.mp hc1, hc2⟩
      obtain ⟨i, hi, hpi, hcl⟩ := isPl_c hp (by omega)
      refine xs_f 26 r_96_25 rfl ?_
      refine xs_get 29 r_96_26 rfl rfl (by first | assumption | exact xup_s | exact o0 | exact (b7 _ (by omega)).1 | exact (b10 _ (by omega)).1 | (refine (xup_n (by omega)).trans ?_; first | assumption | exact xup_s | exact o0 | exact (b7 _ (by omega)).1 | exact (b10 _ (by omega)).1) | (refine (xup_n (by omega)).trans ((xup_n (by omega)).trans ?_); first | assumption | exact xup_s | exact o0 | exact (b7 _ (by omega)).1 | exact (b10 _ (by omega)).1) | (refine (xup_n (by omega)).trans ((xup_n (by omega)).trans ((xup_n (by omega)).trans ?_)); first | assumption | exact xup_s | exact o0 | exact (b7 _ (by omega)).1 | exact (b10 _ (by omega)).1)) (by rfl) ?_
      refine xs_get 32 r_96_29 rfl rfl (by first | assumption | exact xup_s | exact o0 | exact (b7 _ (by omega)).1 | exact (b10 _ (by omega)).1 | (refine (xup_n (by omega)).trans ?_; first | assumption | exact xup_s | exact o0 | exact (b7 _ (by omega)).1 | exact (b10 _ (by omega)).1) | (refine (xup_n (by omega)).trans ((xup_n (by omega)).trans ?_); first | assumption | exact xup_s | exact o0 | exact (b7 _ (by omega)).1 | exact (b10 _ (by omega)).1) | (refine (xup_n (by omega)).trans ((xup_n (by omega)).trans ((xup_n (by omega)).trans ?_)); first | assumption | exact xup_s | exact o0 | exact (b7 _ (by omega)).1 | exact (b10 _ (by omega)).1)) (by rfl) ?_
      refine xs_f 33 r_96_32 rfl ?_
      refine xs_aldR 34 r_96_33 (fun _ _ => rfl) rfl rfl rfl (j := i) hpi (by first | assumption | (refine RA.fr ?_ (xup_n (by omega)); first | assumption) | (refine RA.fr (RA.fr ?_ (xup_n (by omega))) (xup_n (by omega)); first | assumption) | (refine RA.fr (RA.fr (RA.fr ?_ (xup_n (by omega))) (xup_n (by omega))) (xup_n (by omega)); first | assumption)) (by omega) ?_
      refine xs_get 37 r_96_34 rfl rfl (by first | assumption | exact xup_s | exact o0 | exact (b7 _ (by omega)).1 | exact (b10 _ (by omega)).1 | (refine (xup_n (by omega)).trans ?_; first | assumption | exact xup_s | exact o0 | exact (b7 _ (by omega)).1 | exact (b10 _ (by omega)).1) | (refine (xup_n (by omega)).trans ((xup_n (by omega)).trans ?_); first | assumption | exact xup_s | exact o0 | exact (b7 _ (by omega)).1 | exact (b10 _ (by omega)).1) | (refine (xup_n (by omega)).trans ((xup_n (by omega)).trans ((xup_n (by omega)).trans ?_)); first | assumption | exact xup_s | exact o0 | exact (b7 _ (by omega)).1 | exact (b10 _ (by omega)).1)) (by rfl) ?_
      refine xs_ret r_96_37 rfl ?_
      first
        | exact cq0 k0 ((if_pos hp).trans (by rw [hcl]))
        | exact cqx k1 (if_neg (fun z => absurd hc1 (Int32.not_lt.mpr z.1)))
        | exact cqx k1 (if_neg (fun z => hc2 z.2))
    · refine xs_thr r_96_15 rfl ?_
      first
        | exact cq0 k0 ((if_pos hp).trans (by rw [hcl]))
        | exact cqx k1 (if_neg (fun z => absurd hc1 (Int32.not_lt.mpr z.1)))
        | exact cqx k1 (if_neg (fun z => hc2 z.2))

theorem e_97 {S : XSc} {d : Nat} {h : XH} {Q : XO → XH → Prop} {b np no : Nat} {nn : Int32} {sc : Nat} {ho : Int32} {TS TH tr : Nat → Int32} {pl : Nat → XPl} {q : Nat → XQu} {s : Nat → Nat} {R : Nat → Nat → Nat} {e w1 w2 w3 w4 w5 : Nat} {i1 i2 i3 : Int32} (o0 : h.1 e = some (.inr (8, [.ref b, .ref w1, .ref w2, .ref w3, .ref w4, .ref w5, .int i1, .int i2, .int i3]))) (hB : BdP h.1 b np no nn sc ho TS TH tr pl q s R) (h32 : 32 ≤ b) {n : Int32} (k0 : (if pla q no n < no then ((0, nI (pla q no n)) : XR) else (1, 0)).1 = 0 → Q (.inl (some (.int (if pla q no n < no then ((0, nI (pla q no n)) : XR) else (1, 0)).2))) h) (k1 : (if pla q no n < no then ((0, nI (pla q no n)) : XR) else (1, 0)).1 = 1 → Q (.inr 5) (xbump h)) : xP S (d + 1) 97 0 [(0, .ref e), (1, .int n)] [] h Q := by
  obtain ⟨b1, ⟨b2n, b2o, b2s⟩, b3, b4, b5, b6, b7, b8, b9, b10⟩ := id hB
  refine xs_f 1 r_97_0 rfl ?_
  refine xs_get 4 r_97_1 rfl rfl (by first | assumption | exact xup_s | exact o0 | exact (b7 _ (by omega)).1 | exact (b10 _ (by omega)).1 | (refine (xup_n (by omega)).trans ?_; first | assumption | exact xup_s | exact o0 | exact (b7 _ (by omega)).1 | exact (b10 _ (by omega)).1) | (refine (xup_n (by omega)).trans ((xup_n (by omega)).trans ?_); first | assumption | exact xup_s | exact o0 | exact (b7 _ (by omega)).1 | exact (b10 _ (by omega)).1) | (refine (xup_n (by omega)).trans ((xup_n (by omega)).trans ((xup_n (by omega)).trans ?_)); first | assumption | exact xup_s | exact o0 | exact (b7 _ (by omega)).1 | exact (b10 _ (by omega)).1)) (by rfl) ?_
  refine xs_f 5 r_97_4 rfl ?_
  refine xs_call (lv2 := [(0, _), (1, _)]) r_97_5 rfl rfl (by decide) (xcan_0 rfl rfl (by first | assumption | exact xup_s | exact o0 | exact (b7 _ (by omega)).1 | exact (b10 _ (by omega)).1 | (refine (xup_n (by omega)).trans ?_; first | assumption | exact xup_s | exact o0 | exact (b7 _ (by omega)).1 | exact (b10 _ (by omega)).1) | (refine (xup_n (by omega)).trans ((xup_n (by omega)).trans ?_); first | assumption | exact xup_s | exact o0 | exact (b7 _ (by omega)).1 | exact (b10 _ (by omega)).1) | (refine (xup_n (by omega)).trans ((xup_n (by omega)).trans ((xup_n (by omega)).trans ?_)); first | assumption | exact xup_s | exact o0 | exact (b7 _ (by omega)).1 | exact (b10 _ (by omega)).1)) (by rfl)) rfl (c_13 hB h32 (fun hq => ?_) (fun hq => ?_))
  · refine xK_v rfl ?_
    refine xs_f 9 (lv2 := [(2, _), (0, _), (1, _)]) r_97_8 rfl ?_
    refine xs_f 10 r_97_9 rfl ?_
    refine xs_f 11 r_97_10 rfl ?_
    refine xs_if 14 24 r_97_11 rfl (fun hc1 => ?_) (fun hc1 => ?_)
    · exact absurd hc1 (nI_m1 rfl (by omega))
    · refine xs_f 25 r_97_24 rfl ?_
      refine xs_ret r_97_25 rfl ?_
      first
        | exact cq0 k0 (if_pos hq)
        | exact cqx k1 (if_neg (by omega))
  · refine xK_v rfl ?_
    refine xs_f 9 (lv2 := [(2, _), (0, _), (1, _)]) r_97_8 rfl ?_
    refine xs_f 10 r_97_9 rfl ?_
    refine xs_f 11 r_97_10 rfl ?_
    refine xs_f 14 r_97_11 rfl ?_
    refine xs_thr r_97_14 rfl ?_
    first
      | exact cq0 k0 (if_pos hq)
      | exact cqx k1 (if_neg (by omega))

theorem e_98 {S : XSc} {d : Nat} {h : XH} {Q : XO → XH → Prop} {b np no : Nat} {nn : Int32} {sc : Nat} {ho : Int32} {TS TH tr : Nat → Int32} {pl : Nat → XPl} {q : Nat → XQu} {s : Nat → Nat} {R : Nat → Nat → Nat} {e w1 w2 w3 w4 w5 : Nat} {i1 i2 i3 : Int32} (o0 : h.1 e = some (.inr (8, [.ref b, .ref w1, .ref w2, .ref w3, .ref w4, .ref w5, .int i1, .int i2, .int i3]))) (hB : BdP h.1 b np no nn sc ho TS TH tr pl q s R) (h32 : 32 ≤ b) {n : Int32} (k0 : (R_q q no n (fun q => q.2.1)).1 = 0 → Q (.inl (some (.int (R_q q no n (fun q => q.2.1)).2))) h) (k1 : (R_q q no n (fun q => q.2.1)).1 = 1 → Q (.inr 5) (xbump h)) : xP S (d + 2) 98 0 [(0, .ref e), (1, .int n)] [] h Q := by
  obtain ⟨b1, ⟨b2n, b2o, b2s⟩, b3, b4, b5, b6, b7, b8, b9, b10⟩ := id hB
  refine xs_f 1 r_98_0 rfl ?_
  refine xs_f 2 r_98_1 rfl ?_
  refine xs_call (lv2 := [(0, _), (1, _)]) r_98_2 rfl rfl (by decide) (xcan_0 rfl rfl (by first | assumption | exact xup_s | exact o0 | exact (b7 _ (by omega)).1 | exact (b10 _ (by omega)).1 | (refine (xup_n (by omega)).trans ?_; first | assumption | exact xup_s | exact o0 | exact (b7 _ (by omega)).1 | exact (b10 _ (by omega)).1) | (refine (xup_n (by omega)).trans ((xup_n (by omega)).trans ?_); first | assumption | exact xup_s | exact o0 | exact (b7 _ (by omega)).1 | exact (b10 _ (by omega)).1) | (refine (xup_n (by omega)).trans ((xup_n (by omega)).trans ((xup_n (by omega)).trans ?_)); first | assumption | exact xup_s | exact o0 | exact (b7 _ (by omega)).1 | exact (b10 _ (by omega)).1)) (by rfl)) rfl (e_140 o0 hB h32 (fun hq => ?_) (fun hq => ?_))
  · refine xK_v rfl ?_
    refine xs_get 8 r_98_5 rfl rfl (by first | assumption | exact xup_s | exact o0 | exact (b7 _ (by omega)).1 | exact (b10 _ (by omega)).1 | (refine (xup_n (by omega)).trans ?_; first | assumption | exact xup_s | exact o0 | exact (b7 _ (by omega)).1 | exact (b10 _ (by omega)).1) | (refine (xup_n (by omega)).trans ((xup_n (by omega)).trans ?_); first | assumption | exact xup_s | exact o0 | exact (b7 _ (by omega)).1 | exact (b10 _ (by omega)).1) | (refine (xup_n (by omega)).trans ((xup_n (by omega)).trans ((xup_n (by omega)).trans ?_)); first | assumption | exact xup_s | exact o0 | exact (b7 _ (by omega)).1 | exact (b10 _ (by omega)).1)) (by rfl) ?_
    refine xs_ret r_98_8 rfl ?_
    first
      | exact cq0 k0 (if_pos hq)
      | exact cqx k1 (if_neg (by omega))
  · refine xK_e rfl rfl ?_
    first
      | exact cq0 k0 (if_pos hq)
      | exact cqx k1 (if_neg (by omega))

theorem e_99 {S : XSc} {d : Nat} {h : XH} {Q : XO → XH → Prop} {b np no : Nat} {nn : Int32} {sc : Nat} {ho : Int32} {TS TH tr : Nat → Int32} {pl : Nat → XPl} {q : Nat → XQu} {s : Nat → Nat} {R : Nat → Nat → Nat} {e w1 w2 w3 w4 w5 : Nat} {i1 i2 i3 : Int32} (o0 : h.1 e = some (.inr (8, [.ref b, .ref w1, .ref w2, .ref w3, .ref w4, .ref w5, .int i1, .int i2, .int i3]))) (hB : BdP h.1 b np no nn sc ho TS TH tr pl q s R) (h32 : 32 ≤ b) {n : Int32} (k0 : (R_q q no n (fun q => nI q.2.2.1)).1 = 0 → Q (.inl (some (.int (R_q q no n (fun q => nI q.2.2.1)).2))) h) (k1 : (R_q q no n (fun q => nI q.2.2.1)).1 = 1 → Q (.inr 5) (xbump h)) : xP S (d + 2) 99 0 [(0, .ref e), (1, .int n)] [] h Q := by
  obtain ⟨b1, ⟨b2n, b2o, b2s⟩, b3, b4, b5, b6, b7, b8, b9, b10⟩ := id hB
  refine xs_f 1 r_99_0 rfl ?_
  refine xs_f 2 r_99_1 rfl ?_
  refine xs_call (lv2 := [(0, _), (1, _)]) r_99_2 rfl rfl (by decide) (xcan_0 rfl rfl (by first | assumption | exact xup_s | exact o0 | exact (b7 _ (by omega)).1 | exact (b10 _ (by omega)).1 | (refine (xup_n (by omega)).trans ?_; first | assumption | exact xup_s | exact o0 | exact (b7 _ (by omega)).1 | exact (b10 _ (by omega)).1) | (refine (xup_n (by omega)).trans ((xup_n (by omega)).trans ?_); first | assumption | exact xup_s | exact o0 | exact (b7 _ (by omega)).1 | exact (b10 _ (by omega)).1) | (refine (xup_n (by omega)).trans ((xup_n (by omega)).trans ((xup_n (by omega)).trans ?_)); first | assumption | exact xup_s | exact o0 | exact (b7 _ (by omega)).1 | exact (b10 _ (by omega)).1)) (by rfl)) rfl (e_140 o0 hB h32 (fun hq => ?_) (fun hq => ?_))
  · refine xK_v rfl ?_
    refine xs_get 8 r_99_5 rfl rfl (by first | assumption | exact xup_s | exact o0 | exact (b7 _ (by omega)).1 | exact (b10 _ (by omega)).1 | (refine (xup_n (by omega)).trans ?_; first | assumption | exact xup_s | exact o0 | exact (b7 _ (by omega)).1 | exact (b10 _ (by omega)).1) | (refine (xup_n (by omega)).trans ((xup_n (by omega)).trans ?_); first | assumption | exact xup_s | exact o0 | exact (b7 _ (by omega)).1 | exact (b10 _ (by omega)).1) | (refine (xup_n (by omega)).trans ((xup_n (by omega)).trans ((xup_n (by omega)).trans ?_)); first | assumption | exact xup_s | exact o0 | exact (b7 _ (by omega)).1 | exact (b10 _ (by omega)).1)) (by rfl) ?_
    refine xs_ret r_99_8 rfl ?_
    first
      | exact cq0 k0 (if_pos hq)
      | exact cqx k1 (if_neg (by omega))
  · refine xK_e rfl rfl ?_
    first
      | exact cq0 k0 (if_pos hq)
      | exact cqx k1 (if_neg (by omega))

theorem e_100 {S : XSc} {d : Nat} {h : XH} {Q : XO → XH → Prop} {b np no : Nat} {nn : Int32} {sc : Nat} {ho : Int32} {TS TH tr : Nat → Int32} {pl : Nat → XPl} {q : Nat → XQu} {s : Nat → Nat} {R : Nat → Nat → Nat} {e w1 w2 w3 w4 w5 : Nat} {i1 i2 i3 : Int32} (o0 : h.1 e = some (.inr (8, [.ref b, .ref w1, .ref w2, .ref w3, .ref w4, .ref w5, .int i1, .int i2, .int i3]))) (hB : BdP h.1 b np no nn sc ho TS TH tr pl q s R) (h32 : 32 ≤ b) {n r : Int32} (k0 : (R_est q no n r).1 = 0 → Q (.inl (some (.int (R_est q no n r).2))) h) (k1 : (R_est q no n r).1 = 1 → Q (.inr 5) (xbump h)) (k2 : (R_est q no n r).1 = 2 → Q (.inr 2) (xbump h)) : xP S (d + 2) 100 0 [(0, .ref e), (1, .int n), (2, .int r)] [] h Q := by
  obtain ⟨b1, ⟨b2n, b2o, b2s⟩, b3, b4, b5, b6, b7, b8, b9, b10⟩ := id hB
  refine xs_f 1 r_100_0 rfl ?_
  refine xs_f 2 r_100_1 rfl ?_
  refine xs_call (lv2 := [(0, _), (1, _)]) r_100_2 rfl rfl (by decide) (xcan_0 rfl rfl (by first | assumption | exact xup_s | exact (u7 _ (by omega)) | exact o0 | exact (b7 _ (by omega)).1 | exact (b10 _ (by omega)).1 | (refine (xup_n (by omega)).trans ?_; first | assumption | exact xup_s | exact (u7 _ (by omega)) | exact o0 | exact (b7 _ (by omega)).1 | exact (b10 _ (by omega)).1) | (refine (xup_n (by omega)).trans ((xup_n (by omega)).trans ?_); first | assumption | exact xup_s | exact (u7 _ (by omega)) | exact o0 | exact (b7 _ (by omega)).1 | exact (b10 _ (by omega)).1) | (refine (xup_n (by omega)).trans ((xup_n (by omega)).trans ((xup_n (by omega)).trans ?_)); first | assumption | exact xup_s | exact (u7 _ (by omega)) | exact o0 | exact (b7 _ (by omega)).1 | exact (b10 _ (by omega)).1)) (by rfl)) rfl (e_140 o0 hB h32 (fun hq => ?_) (fun hq => ?_))
  · obtain ⟨u1, u2, u3, u5, u6, u7⟩ := b10 (pla q no n) (by omega)
    refine xK_v rfl ?_
    refine xs_f 6 (lv2 := [(3, _), (0, _), (1, _), (2, _)]) r_100_5 rfl ?_
    refine xs_f 7 r_100_6 rfl ?_
    refine xs_if 18 10 r_100_7 rfl (fun hc1 => ?_) (fun hc1 => ?_)
    · refine xs_thr r_100_18 rfl ?_
      first
        | exact cq0 k0 ((if_pos hq).trans ((if_pos hp).trans (by rw [hcl])))
        | exact cqx k2 ((if_pos hq).trans (if_neg (fun z => absurd hc1 (Int32.not_lt.mpr z.1))))
        | exact cqx k2 ((if_pos hq).trans (if_neg (fun z => hc2 z.2)))
        | exact cqx k1 (if_neg (by omega))
    · refine xs_f 11 r_100_10 rfl ?_
      refine xs_f 12 r_100_11 rfl ?_
      refine xs_get 15 r_100_12 rfl rfl (by first | assumption | exact xup_s | exact (u7 _ (by omega)) | exact o0 | exact (b7 _ (by omega)).1 | exact (b10 _ (by omega)).1 | (refine (xup_n (by omega)).trans ?_; first | assumption | exact xup_s | exact (u7 _ (by omega)) | exact o0 | exact (b7 _ (by omega)).1 | exact (b10 _ (by omega)).1) | (refine (xup_n (by omega)).trans ((xup_n (by omega)).trans ?_); first | assumption | exact xup_s | exact (u7 _ (by omega)) | exact o0 | exact (b7 _ (by omega)).1 | exact (b10 _ (by omega)).1) | (refine (xup_n (by omega)).trans ((xup_n (by omega)).trans ((xup_n (by omega)).trans ?_)); first | assumption | exact xup_s | exact (u7 _ (by omega)) | exact o0 | exact (b7 _ (by omega)).1 | exact (b10 _ (by omega)).1)) (by rfl) ?_
      refine xs_if 28 18 r_100_15 rfl (fun hc2 => ?_) (fun hc2 => ?_)
      · have hp : isPl (q (pla q no n)).2.2.1 r := ⟨Int32.not_lt.mp hc1, hc2⟩
        obtain ⟨i, hi, hpi, hcl⟩ := isPl_c hp (by omega)
        refine xs_f 29 r_100_28 rfl ?_
        refine xs_get 32 r_100_29 rfl rfl (by first | assumption | exact xup_s | exact (u7 _ (by omega)) | exact o0 | exact (b7 _ (by omega)).1 | exact (b10 _ (by omega)).1 | (refine (xup_n (by omega)).trans ?_; first | assumption | exact xup_s | exact (u7 _ (by omega)) | exact o0 | exact (b7 _ (by omega)).1 | exact (b10 _ (by omega)).1) | (refine (xup_n (by omega)).trans ((xup_n (by omega)).trans ?_); first | assumption | exact xup_s | exact (u7 _ (by omega)) | exact o0 | exact (b7 _ (by omega)).1 | exact (b10 _ (by omega)).1) | (refine (xup_n (by omega)).trans ((xup_n (by omega)).trans ((xup_n (by omega)).trans ?_)); first | assumption | exact xup_s | exact (u7 _ (by omega)) | exact o0 | exact (b7 _ (by omega)).1 | exact (b10 _ (by omega)).1)) (by rfl) ?_
        refine xs_f 33 r_100_32 rfl ?_
        refine xs_aldR 34 r_100_33 (fun _ _ => rfl) rfl rfl rfl (j := i) hpi (by first | assumption | (refine RA.fr ?_ (xup_n (by omega)); first | assumption) | (refine RA.fr (RA.fr ?_ (xup_n (by omega))) (xup_n (by omega)); first | assumption) | (refine RA.fr (RA.fr (RA.fr ?_ (xup_n (by omega))) (xup_n (by omega))) (xup_n (by omega)); first | assumption)) (by omega) ?_
        refine xs_get 37 r_100_34 rfl rfl (by first | assumption | exact xup_s | exact (u7 _ (by omega)) | exact o0 | exact (b7 _ (by omega)).1 | exact (b10 _ (by omega)).1 | (refine (xup_n (by omega)).trans ?_; first | assumption | exact xup_s | exact (u7 _ (by omega)) | exact o0 | exact (b7 _ (by omega)).1 | exact (b10 _ (by omega)).1) | (refine (xup_n (by omega)).trans ((xup_n (by omega)).trans ?_); first | assumption | exact xup_s | exact (u7 _ (by omega)) | exact o0 | exact (b7 _ (by omega)).1 | exact (b10 _ (by omega)).1) | (refine (xup_n (by omega)).trans ((xup_n (by omega)).trans ((xup_n (by omega)).trans ?_)); first | assumption | exact xup_s | exact (u7 _ (by omega)) | exact o0 | exact (b7 _ (by omega)).1 | exact (b10 _ (by omega)).1)) (by rfl) ?_
        refine xs_ret r_100_37 rfl ?_
        first
          | exact cq0 k0 ((if_pos hq).trans ((if_pos hp).trans (by rw [hcl])))
          | exact cqx k2 ((if_pos hq).trans (if_neg (fun z => absurd hc1 (Int32.not_lt.mpr z.1))))
          | exact cqx k2 ((if_pos hq).trans (if_neg (fun z => hc2 z.2)))
          | exact cqx k1 (if_neg (by omega))
      · refine xs_thr r_100_18 rfl ?_
        first
          | exact cq0 k0 ((if_pos hq).trans ((if_pos hp).trans (by rw [hcl])))
          | exact cqx k2 ((if_pos hq).trans (if_neg (fun z => absurd hc1 (Int32.not_lt.mpr z.1))))
          | exact cqx k2 ((if_pos hq).trans (if_neg (fun z => hc2 z.2)))
          | exact cqx k1 (if_neg (by omega))
  · refine xK_e rfl rfl ?_
    first
      | exact cq0 k0 ((if_pos hq).trans ((if_pos hp).trans (by rw [hcl])))
      | exact cqx k2 ((if_pos hq).trans (if_neg (fun z => absurd hc1 (Int32.not_lt.mpr z.1))))
      | exact cqx k2 ((if_pos hq).trans (if_neg (fun z => hc2 z.2)))
      | exact cqx k1 (if_neg (by omega))

theorem e_102 {S : XSc} {d : Nat} {h : XH} {Q : XO → XH → Prop} {b np no : Nat} {nn : Int32} {sc : Nat} {ho : Int32} {TS TH tr : Nat → Int32} {pl : Nat → XPl} {q : Nat → XQu} {s : Nat → Nat} {R : Nat → Nat → Nat} {e w1 w2 w3 w4 w5 : Nat} {i1 i2 i3 : Int32} (o0 : h.1 e = some (.inr (8, [.ref b, .ref w1, .ref w2, .ref w3, .ref w4, .ref w5, .int i1, .int i2, .int i3]))) (hB : BdP h.1 b np no nn sc ho TS TH tr pl q s R) (h32 : 32 ≤ b) {p n : Int32} (k0 : (R_fld np q no p n (fun e => e.2.1)).1 = 0 → Q (.inl (some (.int (R_fld np q no p n (fun e => e.2.1)).2))) h) (k1 : (R_fld np q no p n (fun e => e.2.1)).1 = 1 → Q (.inr 2) (xbump h)) (k2 : (R_fld np q no p n (fun e => e.2.1)).1 = 2 → Q (.inr 5) (xbump h)) : xP S (d + 3) 102 0 [(0, .ref e), (1, .int p), (2, .int n)] [] h Q := by
  obtain ⟨b1, ⟨b2n, b2o, b2s⟩, b3, b4, b5, b6, b7, b8, b9, b10⟩ := id hB
  refine xs_f 1 r_102_0 rfl ?_
  refine xs_f 2 r_102_1 rfl ?_
  refine xs_f 3 r_102_2 rfl ?_
  refine xs_call (lv2 := [(0, _), (1, _), (2, _)]) r_102_3 rfl rfl (by decide) (xcan_0 rfl rfl (by first | assumption | exact xup_s | exact hE | exact o0 | exact (b7 _ (by omega)).1 | exact (b10 _ (by omega)).1 | (refine (xup_n (by omega)).trans ?_; first | assumption | exact xup_s | exact hE | exact o0 | exact (b7 _ (by omega)).1 | exact (b10 _ (by omega)).1) | (refine (xup_n (by omega)).trans ((xup_n (by omega)).trans ?_); first | assumption | exact xup_s | exact hE | exact o0 | exact (b7 _ (by omega)).1 | exact (b10 _ (by omega)).1) | (refine (xup_n (by omega)).trans ((xup_n (by omega)).trans ((xup_n (by omega)).trans ?_)); first | assumption | exact xup_s | exact hE | exact o0 | exact (b7 _ (by omega)).1 | exact (b10 _ (by omega)).1)) (by rfl)) rfl (e_142 o0 hB h32 (fun hp hq hr => ?_) (fun hp => ?_) (fun hp hx => ?_))
  · have hE := ((b10 (pla q no n) (by omega)).2.2.2.2.2 (rnk (q (pla q no n)).2.2.2 (q (pla q no n)).2.2.1 p) (by have := (b10 (pla q no n) (by omega)).2.1; omega))
    refine xK_v rfl ?_
    refine xs_get 9 r_102_6 rfl rfl (by first | assumption | exact xup_s | exact hE | exact o0 | exact (b7 _ (by omega)).1 | exact (b10 _ (by omega)).1 | (refine (xup_n (by omega)).trans ?_; first | assumption | exact xup_s | exact hE | exact o0 | exact (b7 _ (by omega)).1 | exact (b10 _ (by omega)).1) | (refine (xup_n (by omega)).trans ((xup_n (by omega)).trans ?_); first | assumption | exact xup_s | exact hE | exact o0 | exact (b7 _ (by omega)).1 | exact (b10 _ (by omega)).1) | (refine (xup_n (by omega)).trans ((xup_n (by omega)).trans ((xup_n (by omega)).trans ?_)); first | assumption | exact xup_s | exact hE | exact o0 | exact (b7 _ (by omega)).1 | exact (b10 _ (by omega)).1)) (by rfl) ?_
    refine xs_ret r_102_9 rfl ?_
    first
      | exact cq0 k0 ((if_pos hp).trans (if_pos ⟨hq, hr⟩))
      | exact cqx k2 ((if_pos hp).trans (if_neg hx))
      | exact cqx k1 (if_neg hp)
  · refine xK_e rfl rfl ?_
    first
      | exact cq0 k0 ((if_pos hp).trans (if_pos ⟨hq, hr⟩))
      | exact cqx k2 ((if_pos hp).trans (if_neg hx))
      | exact cqx k1 (if_neg hp)
  · refine xK_e rfl rfl ?_
    first
      | exact cq0 k0 ((if_pos hp).trans (if_pos ⟨hq, hr⟩))
      | exact cqx k2 ((if_pos hp).trans (if_neg hx))
      | exact cqx k1 (if_neg hp)

theorem e_103 {S : XSc} {d : Nat} {h : XH} {Q : XO → XH → Prop} {b np no : Nat} {nn : Int32} {sc : Nat} {ho : Int32} {TS TH tr : Nat → Int32} {pl : Nat → XPl} {q : Nat → XQu} {s : Nat → Nat} {R : Nat → Nat → Nat} {e w1 w2 w3 w4 w5 : Nat} {i1 i2 i3 : Int32} (o0 : h.1 e = some (.inr (8, [.ref b, .ref w1, .ref w2, .ref w3, .ref w4, .ref w5, .int i1, .int i2, .int i3]))) (hB : BdP h.1 b np no nn sc ho TS TH tr pl q s R) (h32 : 32 ≤ b) {p n : Int32} (k0 : (R_fld np q no p n (fun e => e.2.2.1)).1 = 0 → Q (.inl (some (.int (R_fld np q no p n (fun e => e.2.2.1)).2))) h) (k1 : (R_fld np q no p n (fun e => e.2.2.1)).1 = 1 → Q (.inr 2) (xbump h)) (k2 : (R_fld np q no p n (fun e => e.2.2.1)).1 = 2 → Q (.inr 5) (xbump h)) : xP S (d + 3) 103 0 [(0, .ref e), (1, .int p), (2, .int n)] [] h Q := by
  obtain ⟨b1, ⟨b2n, b2o, b2s⟩, b3, b4, b5, b6, b7, b8, b9, b10⟩ := id hB
  refine xs_f 1 r_103_0 rfl ?_
  refine xs_f 2 r_103_1 rfl ?_
  refine xs_f 3 r_103_2 rfl ?_
  refine xs_call (lv2 := [(0, _), (1, _), (2, _)]) r_103_3 rfl rfl (by decide) (xcan_0 rfl rfl (by first | assumption | exact xup_s | exact hE | exact o0 | exact (b7 _ (by omega)).1 | exact (b10 _ (by omega)).1 | (refine (xup_n (by omega)).trans ?_; first | assumption | exact xup_s | exact hE | exact o0 | exact (b7 _ (by omega)).1 | exact (b10 _ (by omega)).1) | (refine (xup_n (by omega)).trans ((xup_n (by omega)).trans ?_); first | assumption | exact xup_s | exact hE | exact o0 | exact (b7 _ (by omega)).1 | exact (b10 _ (by omega)).1) | (refine (xup_n (by omega)).trans ((xup_n (by omega)).trans ((xup_n (by omega)).trans ?_)); first | assumption | exact xup_s | exact hE | exact o0 | exact (b7 _ (by omega)).1 | exact (b10 _ (by omega)).1)) (by rfl)) rfl (e_142 o0 hB h32 (fun hp hq hr => ?_) (fun hp => ?_) (fun hp hx => ?_))
  · have hE := ((b10 (pla q no n) (by omega)).2.2.2.2.2 (rnk (q (pla q no n)).2.2.2 (q (pla q no n)).2.2.1 p) (by have := (b10 (pla q no n) (by omega)).2.1; omega))
    refine xK_v rfl ?_
    refine xs_get 9 r_103_6 rfl rfl (by first | assumption | exact xup_s | exact hE | exact o0 | exact (b7 _ (by omega)).1 | exact (b10 _ (by omega)).1 | (refine (xup_n (by omega)).trans ?_; first | assumption | exact xup_s | exact hE | exact o0 | exact (b7 _ (by omega)).1 | exact (b10 _ (by omega)).1) | (refine (xup_n (by omega)).trans ((xup_n (by omega)).trans ?_); first | assumption | exact xup_s | exact hE | exact o0 | exact (b7 _ (by omega)).1 | exact (b10 _ (by omega)).1) | (refine (xup_n (by omega)).trans ((xup_n (by omega)).trans ((xup_n (by omega)).trans ?_)); first | assumption | exact xup_s | exact hE | exact o0 | exact (b7 _ (by omega)).1 | exact (b10 _ (by omega)).1)) (by rfl) ?_
    refine xs_ret r_103_9 rfl ?_
    first
      | exact cq0 k0 ((if_pos hp).trans (if_pos ⟨hq, hr⟩))
      | exact cqx k2 ((if_pos hp).trans (if_neg hx))
      | exact cqx k1 (if_neg hp)
  · refine xK_e rfl rfl ?_
    first
      | exact cq0 k0 ((if_pos hp).trans (if_pos ⟨hq, hr⟩))
      | exact cqx k2 ((if_pos hp).trans (if_neg hx))
      | exact cqx k1 (if_neg hp)
  · refine xK_e rfl rfl ?_
    first
      | exact cq0 k0 ((if_pos hp).trans (if_pos ⟨hq, hr⟩))
      | exact cqx k2 ((if_pos hp).trans (if_neg hx))
      | exact cqx k1 (if_neg hp)

theorem e_104 {S : XSc} {d : Nat} {h : XH} {Q : XO → XH → Prop} {b np no : Nat} {nn : Int32} {sc : Nat} {ho : Int32} {TS TH tr : Nat → Int32} {pl : Nat → XPl} {q : Nat → XQu} {s : Nat → Nat} {R : Nat → Nat → Nat} {e w1 w2 w3 w4 w5 : Nat} {i1 i2 i3 : Int32} (o0 : h.1 e = some (.inr (8, [.ref b, .ref w1, .ref w2, .ref w3, .ref w4, .ref w5, .int i1, .int i2, .int i3]))) (hB : BdP h.1 b np no nn sc ho TS TH tr pl q s R) (h32 : 32 ≤ b) {p n : Int32} (k0 : (R_fld np q no p n (fun e => e.2.2.2.1)).1 = 0 → Q (.inl (some (.int (R_fld np q no p n (fun e => e.2.2.2.1)).2))) h) (k1 : (R_fld np q no p n (fun e => e.2.2.2.1)).1 = 1 → Q (.inr 2) (xbump h)) (k2 : (R_fld np q no p n (fun e => e.2.2.2.1)).1 = 2 → Q (.inr 5) (xbump h)) : xP S (d + 3) 104 0 [(0, .ref e), (1, .int p), (2, .int n)] [] h Q := by
  obtain ⟨b1, ⟨b2n, b2o, b2s⟩, b3, b4, b5, b6, b7, b8, b9, b10⟩ := id hB
  refine xs_f 1 r_104_0 rfl ?_
  refine xs_f 2 r_104_1 rfl ?_
  refine xs_f 3 r_104_2 rfl ?_
  refine xs_call (lv2 := [(0, _), (1, _), (2, _)]) r_104_3 rfl rfl (by decide) (xcan_0 rfl rfl (by first | assumption | exact xup_s | exact hE | exact o0 | exact (b7 _ (by omega)).1 | exact (b10 _ (by omega)).1 | (refine (xup_n (by omega)).trans ?_; first | assumption | exact xup_s | exact hE | exact o0 | exact (b7 _ (by omega)).1 | exact (b10 _ (by omega)).1) | (refine (xup_n (by omega)).trans ((xup_n (by omega)).trans ?_); first | assumption | exact xup_s | exact hE | exact o0 | exact (b7 _ (by omega)).1 | exact (b10 _ (by omega)).1) | (refine (xup_n (by omega)).trans ((xup_n (by omega)).trans ((xup_n (by omega)).trans ?_)); first | assumption | exact xup_s | exact hE | exact o0 | exact (b7 _ (by omega)).1 | exact (b10 _ (by omega)).1)) (by rfl)) rfl (e_142 o0 hB h32 (fun hp hq hr => ?_) (fun hp => ?_) (fun hp hx => ?_))
  · have hE := ((b10 (pla q no n) (by omega)).2.2.2.2.2 (rnk (q (pla q no n)).2.2.2 (q (pla q no n)).2.2.1 p) (by have := (b10 (pla q no n) (by omega)).2.1; omega))
    refine xK_v rfl ?_
    refine xs_get 9 r_104_6 rfl rfl (by first | assumption | exact xup_s | exact hE | exact o0 | exact (b7 _ (by omega)).1 | exact (b10 _ (by omega)).1 | (refine (xup_n (by omega)).trans ?_; first | assumption | exact xup_s | exact hE | exact o0 | exact (b7 _ (by omega)).1 | exact (b10 _ (by omega)).1) | (refine (xup_n (by omega)).trans ((xup_n (by omega)).trans ?_); first | assumption | exact xup_s | exact hE | exact o0 | exact (b7 _ (by omega)).1 | exact (b10 _ (by omega)).1) | (refine (xup_n (by omega)).trans ((xup_n (by omega)).trans ((xup_n (by omega)).trans ?_)); first | assumption | exact xup_s | exact hE | exact o0 | exact (b7 _ (by omega)).1 | exact (b10 _ (by omega)).1)) (by rfl) ?_
    refine xs_ret r_104_9 rfl ?_
    first
      | exact cq0 k0 ((if_pos hp).trans (if_pos ⟨hq, hr⟩))
      | exact cqx k2 ((if_pos hp).trans (if_neg hx))
      | exact cqx k1 (if_neg hp)
  · refine xK_e rfl rfl ?_
    first
      | exact cq0 k0 ((if_pos hp).trans (if_pos ⟨hq, hr⟩))
      | exact cqx k2 ((if_pos hp).trans (if_neg hx))
      | exact cqx k1 (if_neg hp)
  · refine xK_e rfl rfl ?_
    first
      | exact cq0 k0 ((if_pos hp).trans (if_pos ⟨hq, hr⟩))
      | exact cqx k2 ((if_pos hp).trans (if_neg hx))
      | exact cqx k1 (if_neg hp)

theorem e_105 {S : XSc} {d : Nat} {h : XH} {Q : XO → XH → Prop} {b np no : Nat} {nn : Int32} {sc : Nat} {ho : Int32} {TS TH tr : Nat → Int32} {pl : Nat → XPl} {q : Nat → XQu} {s : Nat → Nat} {R : Nat → Nat → Nat} {e w1 w2 w3 w4 w5 : Nat} {i1 i2 i3 : Int32} (o0 : h.1 e = some (.inr (8, [.ref b, .ref w1, .ref w2, .ref w3, .ref w4, .ref w5, .int i1, .int i2, .int i3]))) (hB : BdP h.1 b np no nn sc ho TS TH tr pl q s R) (h32 : 32 ≤ b) {p n : Int32} (k0 : (R_fld np q no p n (fun e => e.2.2.2.2)).1 = 0 → Q (.inl (some (.int (R_fld np q no p n (fun e => e.2.2.2.2)).2))) h) (k1 : (R_fld np q no p n (fun e => e.2.2.2.2)).1 = 1 → Q (.inr 2) (xbump h)) (k2 : (R_fld np q no p n (fun e => e.2.2.2.2)).1 = 2 → Q (.inr 5) (xbump h)) : xP S (d + 3) 105 0 [(0, .ref e), (1, .int p), (2, .int n)] [] h Q := by
  obtain ⟨b1, ⟨b2n, b2o, b2s⟩, b3, b4, b5, b6, b7, b8, b9, b10⟩ := id hB
  refine xs_f 1 r_105_0 rfl ?_
  refine xs_f 2 r_105_1 rfl ?_
  refine xs_f 3 r_105_2 rfl ?_
  refine xs_call (lv2 := [(0, _), (1, _), (2, _)]) r_105_3 rfl rfl (by decide) (xcan_0 rfl rfl (by first | assumption | exact xup_s | exact hE | exact o0 | exact (b7 _ (by omega)).1 | exact (b10 _ (by omega)).1 | (refine (xup_n (by omega)).trans ?_; first | assumption | exact xup_s | exact hE | exact o0 | exact (b7 _ (by omega)).1 | exact (b10 _ (by omega)).1) | (refine (xup_n (by omega)).trans ((xup_n (by omega)).trans ?_); first | assumption | exact xup_s | exact hE | exact o0 | exact (b7 _ (by omega)).1 | exact (b10 _ (by omega)).1) | (refine (xup_n (by omega)).trans ((xup_n (by omega)).trans ((xup_n (by omega)).trans ?_)); first | assumption | exact xup_s | exact hE | exact o0 | exact (b7 _ (by omega)).1 | exact (b10 _ (by omega)).1)) (by rfl)) rfl (e_142 o0 hB h32 (fun hp hq hr => ?_) (fun hp => ?_) (fun hp hx => ?_))
  · have hE := ((b10 (pla q no n) (by omega)).2.2.2.2.2 (rnk (q (pla q no n)).2.2.2 (q (pla q no n)).2.2.1 p) (by have := (b10 (pla q no n) (by omega)).2.1; omega))
    refine xK_v rfl ?_
    refine xs_get 9 r_105_6 rfl rfl (by first | assumption | exact xup_s | exact hE | exact o0 | exact (b7 _ (by omega)).1 | exact (b10 _ (by omega)).1 | (refine (xup_n (by omega)).trans ?_; first | assumption | exact xup_s | exact hE | exact o0 | exact (b7 _ (by omega)).1 | exact (b10 _ (by omega)).1) | (refine (xup_n (by omega)).trans ((xup_n (by omega)).trans ?_); first | assumption | exact xup_s | exact hE | exact o0 | exact (b7 _ (by omega)).1 | exact (b10 _ (by omega)).1) | (refine (xup_n (by omega)).trans ((xup_n (by omega)).trans ((xup_n (by omega)).trans ?_)); first | assumption | exact xup_s | exact hE | exact o0 | exact (b7 _ (by omega)).1 | exact (b10 _ (by omega)).1)) (by rfl) ?_
    refine xs_ret r_105_9 rfl ?_
    first
      | exact cq0 k0 ((if_pos hp).trans (if_pos ⟨hq, hr⟩))
      | exact cqx k2 ((if_pos hp).trans (if_neg hx))
      | exact cqx k1 (if_neg hp)
  · refine xK_e rfl rfl ?_
    first
      | exact cq0 k0 ((if_pos hp).trans (if_pos ⟨hq, hr⟩))
      | exact cqx k2 ((if_pos hp).trans (if_neg hx))
      | exact cqx k1 (if_neg hp)
  · refine xK_e rfl rfl ?_
    first
      | exact cq0 k0 ((if_pos hp).trans (if_pos ⟨hq, hr⟩))
      | exact cqx k2 ((if_pos hp).trans (if_neg hx))
      | exact cqx k1 (if_neg hp)

theorem e_106 {S : XSc} {d : Nat} {h : XH} {Q : XO → XH → Prop} {b np no : Nat} {nn : Int32} {sc : Nat} {ho : Int32} {TS TH tr : Nat → Int32} {pl : Nat → XPl} {q : Nat → XQu} {s : Nat → Nat} {R : Nat → Nat → Nat} {e w1 w2 w3 w4 w5 : Nat} {i1 i2 i3 : Int32} (o0 : h.1 e = some (.inr (8, [.ref b, .ref w1, .ref w2, .ref w3, .ref w4, .ref w5, .int i1, .int i2, .int i3]))) (hB : BdP h.1 b np no nn sc ho TS TH tr pl q s R) (h32 : 32 ≤ b) {p n : Int32} (hok : ∀ i r, i < no → r < (q i).2.2.1 → xconf ((q i).2.2.2 r).2.2.2.1) (k0 : (R_fld np q no p n xprize).1 = 0 → Q (.inl (some (.int (R_fld np q no p n xprize).2))) h) (k1 : (R_fld np q no p n xprize).1 = 1 → Q (.inr 2) (xbump h)) (k2 : (R_fld np q no p n xprize).1 = 2 → Q (.inr 5) (xbump h)) : xP S (d + 3) 106 0 [(0, .ref e), (1, .int p), (2, .int n)] [] h Q := by
  obtain ⟨b1, ⟨b2n, b2o, b2s⟩, b3, b4, b5, b6, b7, b8, b9, b10⟩ := id hB
  refine xs_f 1 r_106_0 rfl ?_
  refine xs_f 2 r_106_1 rfl ?_
  refine xs_f 3 r_106_2 rfl ?_
  refine xs_call (lv2 := [(0, _), (1, _), (2, _)]) r_106_3 rfl rfl (by decide) (xcan_0 rfl rfl (by first | assumption | exact xup_s | exact hE | exact o0 | exact (b7 _ (by omega)).1 | exact (b10 _ (by omega)).1 | (refine (xup_n (by omega)).trans ?_; first | assumption | exact xup_s | exact hE | exact o0 | exact (b7 _ (by omega)).1 | exact (b10 _ (by omega)).1) | (refine (xup_n (by omega)).trans ((xup_n (by omega)).trans ?_); first | assumption | exact xup_s | exact hE | exact o0 | exact (b7 _ (by omega)).1 | exact (b10 _ (by omega)).1) | (refine (xup_n (by omega)).trans ((xup_n (by omega)).trans ((xup_n (by omega)).trans ?_)); first | assumption | exact xup_s | exact hE | exact o0 | exact (b7 _ (by omega)).1 | exact (b10 _ (by omega)).1)) (by rfl)) rfl (e_142 o0 hB h32 (fun hp hq hr => ?_) (fun hp => ?_) (fun hp hx => ?_))
  · have hE := ((b10 (pla q no n) (by omega)).2.2.2.2.2 (rnk (q (pla q no n)).2.2.2 (q (pla q no n)).2.2.1 p) (by have := (b10 (pla q no n) (by omega)).2.1; omega))
    refine xK_v rfl ?_
    refine xs_call (lv2 := [(0, _)]) r_106_6 rfl rfl (by decide) (xcan_0 rfl rfl (by first | assumption | exact xup_s | exact hE | exact o0 | exact (b7 _ (by omega)).1 | exact (b10 _ (by omega)).1 | (refine (xup_n (by omega)).trans ?_; first | assumption | exact xup_s | exact hE | exact o0 | exact (b7 _ (by omega)).1 | exact (b10 _ (by omega)).1) | (refine (xup_n (by omega)).trans ((xup_n (by omega)).trans ?_); first | assumption | exact xup_s | exact hE | exact o0 | exact (b7 _ (by omega)).1 | exact (b10 _ (by omega)).1) | (refine (xup_n (by omega)).trans ((xup_n (by omega)).trans ((xup_n (by omega)).trans ?_)); first | assumption | exact xup_s | exact hE | exact o0 | exact (b7 _ (by omega)).1 | exact (b10 _ (by omega)).1)) (by rfl)) rfl (c_61 hE (hok _ _ hq hr) ?_)
    refine xK_v rfl ?_
    refine xs_ret r_106_9 rfl ?_
    first
      | exact cq0 k0 ((if_pos hp).trans (if_pos ⟨hq, hr⟩))
      | exact cqx k2 ((if_pos hp).trans (if_neg hx))
      | exact cqx k1 (if_neg hp)
  · refine xK_e rfl rfl ?_
    first
      | exact cq0 k0 ((if_pos hp).trans (if_pos ⟨hq, hr⟩))
      | exact cqx k2 ((if_pos hp).trans (if_neg hx))
      | exact cqx k1 (if_neg hp)
  · refine xK_e rfl rfl ?_
    first
      | exact cq0 k0 ((if_pos hp).trans (if_pos ⟨hq, hr⟩))
      | exact cqx k2 ((if_pos hp).trans (if_neg hx))
      | exact cqx k1 (if_neg hp)

theorem e_107 {S : XSc} {d : Nat} {h : XH} {Q : XO → XH → Prop} {b np no : Nat} {nn : Int32} {sc : Nat} {ho : Int32} {TS TH tr : Nat → Int32} {pl : Nat → XPl} {q : Nat → XQu} {s : Nat → Nat} {R : Nat → Nat → Nat} {e w1 w2 w3 w4 w5 : Nat} {i1 i2 i3 : Int32} (o0 : h.1 e = some (.inr (8, [.ref b, .ref w1, .ref w2, .ref w3, .ref w4, .ref w5, .int i1, .int i2, .int i3]))) (hB : BdP h.1 b np no nn sc ho TS TH tr pl q s R) (h32 : 32 ≤ b) {n v : Int32} (k0 : (R_cov q no n v).1 = 0 → Q (.inl (some (.int (R_cov q no n v).2))) h) (k1 : (R_cov q no n v).1 = 1 → Q (.inr 5) (xbump h)) (k2 : (R_cov q no n v).1 = 2 → Q (.inr 1) (xbump h)) : xP S (d + 2) 107 0 [(0, .ref e), (1, .int n), (2, .int v)] [] h Q := by
  obtain ⟨b1, ⟨b2n, b2o, b2s⟩, b3, b4, b5, b6, b7, b8, b9, b10⟩ := id hB
  refine xs_f 1 r_107_0 rfl ?_
  refine xs_f 2 r_107_1 rfl ?_
  refine xs_call (lv2 := [(0, _), (1, _)]) r_107_2 rfl rfl (by decide) (xcan_0 rfl rfl (by first | assumption | exact xup_s | exact o0 | exact (b7 _ (by omega)).1 | exact (b10 _ (by omega)).1 | (refine (xup_n (by omega)).trans ?_; first | assumption | exact xup_s | exact o0 | exact (b7 _ (by omega)).1 | exact (b10 _ (by omega)).1) | (refine (xup_n (by omega)).trans ((xup_n (by omega)).trans ?_); first | assumption | exact xup_s | exact o0 | exact (b7 _ (by omega)).1 | exact (b10 _ (by omega)).1) | (refine (xup_n (by omega)).trans ((xup_n (by omega)).trans ((xup_n (by omega)).trans ?_)); first | assumption | exact xup_s | exact o0 | exact (b7 _ (by omega)).1 | exact (b10 _ (by omega)).1)) (by rfl)) rfl (e_140 o0 hB h32 (fun hq => ?_) (fun hq => ?_))
  · refine xK_v rfl ?_
    refine xs_f 6 (lv2 := [(3, _), (0, _), (1, _), (2, _)]) r_107_5 rfl ?_
    refine xs_f 7 r_107_6 rfl ?_
    refine xs_call (lv2 := [(0, _)]) r_107_7 rfl rfl (by decide) (xcan_1 rfl) rfl (c_136 (fun hv => ?_) (fun hv => ?_))
    · refine xK_v rfl ?_
      refine xs_f 23 r_107_10 rfl ?_
      refine xs_f 24 r_107_23 rfl ?_
      refine xs_f 25 r_107_24 rfl ?_
      refine xs_call (lv2 := [(0, _), (1, _)]) r_107_25 rfl rfl (by decide) (xcan_0 rfl rfl (by first | assumption | exact xup_s | exact o0 | exact (b7 _ (by omega)).1 | exact (b10 _ (by omega)).1 | (refine (xup_n (by omega)).trans ?_; first | assumption | exact xup_s | exact o0 | exact (b7 _ (by omega)).1 | exact (b10 _ (by omega)).1) | (refine (xup_n (by omega)).trans ((xup_n (by omega)).trans ?_); first | assumption | exact xup_s | exact o0 | exact (b7 _ (by omega)).1 | exact (b10 _ (by omega)).1) | (refine (xup_n (by omega)).trans ((xup_n (by omega)).trans ((xup_n (by omega)).trans ?_)); first | assumption | exact xup_s | exact o0 | exact (b7 _ (by omega)).1 | exact (b10 _ (by omega)).1)) (by rfl)) rfl (c_81 (b10 (pla q no n) (by omega)) (by omega) ?_)
      refine xK_v rfl ?_
      refine xs_ret r_107_28 rfl ?_
      first
        | exact cq0 k0 ((if_pos hq).trans (if_pos hv))
        | exact cqx k2 ((if_pos hq).trans (if_neg hv))
        | exact cqx k1 (if_neg (by omega))
    · refine xK_v rfl ?_
      refine xs_f 13 r_107_10 rfl ?_
      refine xs_thr r_107_13 rfl ?_
      first
        | exact cq0 k0 ((if_pos hq).trans (if_pos hv))
        | exact cqx k2 ((if_pos hq).trans (if_neg hv))
        | exact cqx k1 (if_neg (by omega))
  · refine xK_e rfl rfl ?_
    first
      | exact cq0 k0 ((if_pos hq).trans (if_pos hv))
      | exact cqx k2 ((if_pos hq).trans (if_neg hv))
      | exact cqx k1 (if_neg (by omega))

theorem e_112 {S : XSc} {d : Nat} {h : XH} {Q : XO → XH → Prop} {b np no : Nat} {nn : Int32} {sc : Nat} {ho : Int32} {TS TH tr : Nat → Int32} {pl : Nat → XPl} {q : Nat → XQu} {s : Nat → Nat} {R : Nat → Nat → Nat} {e w1 w2 w3 w4 w5 : Nat} {i1 i2 i3 : Int32} (o0 : h.1 e = some (.inr (8, [.ref b, .ref w1, .ref w2, .ref w3, .ref w4, .ref w5, .int i1, .int i2, .int i3]))) (hB : BdP h.1 b np no nn sc ho TS TH tr pl q s R) (h32 : 32 ≤ b) {p : Int32} (k0 : (R_rec sc tr p).1 = 0 → Q (.inl (some (.int (R_rec sc tr p).2))) h) (k1 : (R_rec sc tr p).1 = 1 → Q (.inr 5) (xbump h)) : xP S d 112 0 [(0, .ref e), (1, .int p)] [] h Q := by
  obtain ⟨b1, ⟨b2n, b2o, b2s⟩, b3, b4, b5, b6, b7, b8, b9, b10⟩ := id hB
  refine xs_f 1 r_112_0 rfl ?_
  refine xs_if 19 4 r_112_1 rfl (fun hc1 => ?_) (fun hc1 => ?_)
  · refine xs_thr r_112_19 rfl ?_
    first
      | exact cq0 k0 ((if_pos hp).trans (by rw [hcl]))
      | exact cqx k1 (if_neg (fun z => absurd hc1 (Int32.not_lt.mpr z.1)))
      | exact cqx k1 (if_neg (fun z => hc2 z.2))
  · refine xs_f 5 r_112_4 rfl ?_
    refine xs_f 6 r_112_5 rfl ?_
    refine xs_get 9 r_112_6 rfl rfl (by first | assumption | exact xup_s | exact o0 | exact (b7 _ (by omega)).1 | exact (b10 _ (by omega)).1 | (refine (xup_n (by omega)).trans ?_; first | assumption | exact xup_s | exact o0 | exact (b7 _ (by omega)).1 | exact (b10 _ (by omega)).1) | (refine (xup_n (by omega)).trans ((xup_n (by omega)).trans ?_); first | assumption | exact xup_s | exact o0 | exact (b7 _ (by omega)).1 | exact (b10 _ (by omega)).1) | (refine (xup_n (by omega)).trans ((xup_n (by omega)).trans ((xup_n (by omega)).trans ?_)); first | assumption | exact xup_s | exact o0 | exact (b7 _ (by omega)).1 | exact (b10 _ (by omega)).1)) (by rfl) ?_
    refine xs_get 12 r_112_9 rfl rfl (by first | assumption | exact xup_s | exact o0 | exact (b7 _ (by omega)).1 | exact (b10 _ (by omega)).1 | (refine (xup_n (by omega)).trans ?_; first | assumption | exact xup_s | exact o0 | exact (b7 _ (by omega)).1 | exact (b10 _ (by omega)).1) | (refine (xup_n (by omega)).trans ((xup_n (by omega)).trans ?_); first | assumption | exact xup_s | exact o0 | exact (b7 _ (by omega)).1 | exact (b10 _ (by omega)).1) | (refine (xup_n (by omega)).trans ((xup_n (by omega)).trans ((xup_n (by omega)).trans ?_)); first | assumption | exact xup_s | exact o0 | exact (b7 _ (by omega)).1 | exact (b10 _ (by omega)).1)) (by rfl) ?_
    refine xs_f 13 r_112_12 rfl ?_
    refine xs_ext 16 r_112_13 rfl rfl rfl rfl ?_
    show xP S d 112 16 _ [.int (if (5 : Int32) < nI sc then 5 else nI sc), .int p] h Q
    rw [min_E (by omega)]
    refine xs_if 29 19 r_112_16 rfl (fun hc2 => ?_) (fun hc2 => ?_)
    · have hp : isPl (min sc 5) p := ⟨Int32.not_lt.mp hc1, hc2⟩
      obtain ⟨i, hi, hpi, hcl⟩ := isPl_c hp (by omega)
      refine xs_f 30 r_112_29 rfl ?_
      refine xs_get 33 r_112_30 rfl rfl (by first | assumption | exact xup_s | exact o0 | exact (b7 _ (by omega)).1 | exact (b10 _ (by omega)).1 | (refine (xup_n (by omega)).trans ?_; first | assumption | exact xup_s | exact o0 | exact (b7 _ (by omega)).1 | exact (b10 _ (by omega)).1) | (refine (xup_n (by omega)).trans ((xup_n (by omega)).trans ?_); first | assumption | exact xup_s | exact o0 | exact (b7 _ (by omega)).1 | exact (b10 _ (by omega)).1) | (refine (xup_n (by omega)).trans ((xup_n (by omega)).trans ((xup_n (by omega)).trans ?_)); first | assumption | exact xup_s | exact o0 | exact (b7 _ (by omega)).1 | exact (b10 _ (by omega)).1)) (by rfl) ?_
      refine xs_get 36 r_112_33 rfl rfl (by first | assumption | exact xup_s | exact o0 | exact (b7 _ (by omega)).1 | exact (b10 _ (by omega)).1 | (refine (xup_n (by omega)).trans ?_; first | assumption | exact xup_s | exact o0 | exact (b7 _ (by omega)).1 | exact (b10 _ (by omega)).1) | (refine (xup_n (by omega)).trans ((xup_n (by omega)).trans ?_); first | assumption | exact xup_s | exact o0 | exact (b7 _ (by omega)).1 | exact (b10 _ (by omega)).1) | (refine (xup_n (by omega)).trans ((xup_n (by omega)).trans ((xup_n (by omega)).trans ?_)); first | assumption | exact xup_s | exact o0 | exact (b7 _ (by omega)).1 | exact (b10 _ (by omega)).1)) (by rfl) ?_
      refine xs_f 37 r_112_36 rfl ?_
      refine xs_aldI 38 r_112_37 (fun _ _ => rfl) rfl rfl rfl (j := i) hpi b6 (by omega) ?_
      refine xs_ret r_112_38 rfl ?_
      first
        | exact cq0 k0 ((if_pos hp).trans (by rw [hcl]))
        | exact cqx k1 (if_neg (fun z => absurd hc1 (Int32.not_lt.mpr z.1)))
        | exact cqx k1 (if_neg (fun z => hc2 z.2))
    · refine xs_thr r_112_19 rfl ?_
      first
        | exact cq0 k0 ((if_pos hp).trans (by rw [hcl]))
        | exact cqx k1 (if_neg (fun z => absurd hc1 (Int32.not_lt.mpr z.1)))
        | exact cqx k1 (if_neg (fun z => hc2 z.2))

theorem e_118 {S : XSc} {d : Nat} {h : XH} {Q : XO → XH → Prop} {b np no : Nat} {nn : Int32} {sc : Nat} {ho : Int32} {TS TH tr : Nat → Int32} {pl : Nat → XPl} {q : Nat → XQu} {s : Nat → Nat} {R : Nat → Nat → Nat} {e w1 w2 w3 w4 w5 : Nat} {i1 i2 i3 : Int32} (o0 : h.1 e = some (.inr (8, [.ref b, .ref w1, .ref w2, .ref w3, .ref w4, .ref w5, .int i1, .int i2, .int i3]))) (hB : BdP h.1 b np no nn sc ho TS TH tr pl q s R) (h32 : 32 ≤ b) (hz : True) (k0 : (R_opt (bst pl np)).1 = 0 → Q (.inl (some (.int (R_opt (bst pl np)).2))) h) (k1 : (R_opt (bst pl np)).1 = 1 → Q (.inr 5) (xbump h)) : xP S (d + 3) 118 0 [(0, .ref e)] [] h Q := by
  obtain ⟨b1, ⟨b2n, b2o, b2s⟩, b3, b4, b5, b6, b7, b8, b9, b10⟩ := id hB
  refine xs_f 1 r_118_0 rfl ?_
  refine xs_get 4 r_118_1 rfl rfl (by first | assumption | exact xup_s | exact o0 | exact (b7 _ (by omega)).1 | exact (b10 _ (by omega)).1 | (refine (xup_n (by omega)).trans ?_; first | assumption | exact xup_s | exact o0 | exact (b7 _ (by omega)).1 | exact (b10 _ (by omega)).1) | (refine (xup_n (by omega)).trans ((xup_n (by omega)).trans ?_); first | assumption | exact xup_s | exact o0 | exact (b7 _ (by omega)).1 | exact (b10 _ (by omega)).1) | (refine (xup_n (by omega)).trans ((xup_n (by omega)).trans ((xup_n (by omega)).trans ?_)); first | assumption | exact xup_s | exact o0 | exact (b7 _ (by omega)).1 | exact (b10 _ (by omega)).1)) (by rfl) ?_
  refine xs_call (lv2 := [(0, _)]) r_118_4 rfl rfl (by decide) (xcan_0 rfl rfl (by first | assumption | exact xup_s | exact o0 | exact (b7 _ (by omega)).1 | exact (b10 _ (by omega)).1 | (refine (xup_n (by omega)).trans ?_; first | assumption | exact xup_s | exact o0 | exact (b7 _ (by omega)).1 | exact (b10 _ (by omega)).1) | (refine (xup_n (by omega)).trans ((xup_n (by omega)).trans ?_); first | assumption | exact xup_s | exact o0 | exact (b7 _ (by omega)).1 | exact (b10 _ (by omega)).1) | (refine (xup_n (by omega)).trans ((xup_n (by omega)).trans ((xup_n (by omega)).trans ?_)); first | assumption | exact xup_s | exact o0 | exact (b7 _ (by omega)).1 | exact (b10 _ (by omega)).1)) (by rfl)) rfl (c_31 hB h32 ?_)
  refine xK_v rfl ?_
  refine xs_f 8 (lv2 := [(1, _), (0, _)]) r_118_7 rfl ?_
  cases hb : bst pl np with
  | none =>
    refine xP_lv [(0, .ref e), (1, .int (-1))] rfl ⟨rfl, rfl, trivial⟩ ?_
    refine xs_f 9 r_118_8 rfl ?_
    refine xs_f 10 r_118_9 rfl ?_
    refine xs_f 13 r_118_10 rfl ?_
    refine xs_thr r_118_13 rfl ?_
    first
      | exact cq0 k0 (by rw [hb]; rfl)
      | exact cqx k1 (by rw [hb]; rfl)
  | some j =>
    have hjl := bst_lt hb
    refine xP_lv [(0, .ref e), (1, .int (nI j))] rfl ⟨rfl, rfl, trivial⟩ ?_
    refine xs_f 9 r_118_8 rfl ?_
    refine xs_f 10 r_118_9 rfl ?_
    refine xs_if 13 24 r_118_10 rfl (fun hc1 => ?_) (fun hc1 => ?_)
    · exact absurd hc1 (nI_m1 rfl (by omega))
    · refine xs_f 25 r_118_24 rfl ?_
      refine xs_ret r_118_25 rfl ?_
      first
        | exact cq0 k0 (by rw [hb]; rfl)
        | exact cqx k1 (by rw [hb]; rfl)

theorem el_119 {S : XSc} {d : Nat} {h : XH} {Q : XO → XH → Prop} {b np no : Nat} {nn : Int32} {sc : Nat} {ho : Int32} {TS TH tr : Nat → Int32} {pl : Nat → XPl} {q : Nat → XQu} {s : Nat → Nat} {R : Nat → Nat → Nat} {e w1 w2 w3 w4 w5 : Nat} {i1 i2 i3 : Int32} (o0 : h.1 e = some (.inr (8, [.ref b, .ref w1, .ref w2, .ref w3, .ref w4, .ref w5, .int i1, .int i2, .int i3]))) (hB : BdP h.1 b np no nn sc ho TS TH tr pl q s R) (h32 : 32 ≤ b) {p : Int32} (k0 : (R_by np pl p).1 = 0 → Q (.inl (some (.int (R_by np pl p).2))) h) (k1 : (R_by np pl p).1 = 1 → Q (.inr 5) (xbump h)) : ∀ (m : Nat) (i : Nat), np - i < m → (i ≤ np) → (∀ j, j < i → nI (cntB (prec pl j) np) ≠ p) → xP S (d + 4) 119 2 [(0, .ref e), (1, .int p), (2, .int (nI i))] [] h Q := by
  intro m
  induction m with
  | zero => intro i hm; exact absurd hm (Nat.not_lt_zero _)
  | succ m ih =>
    intro i hm hi hj
    obtain ⟨b1, ⟨b2n, b2o, b2s⟩, b3, b4, b5, b6, b7, b8, b9, b10⟩ := id hB
    refine xs_f 3 r_119_2 rfl ?_
    refine xs_f 4 r_119_3 rfl ?_
    refine xs_get 7 r_119_4 rfl rfl (by first | assumption | exact xup_s | exact o0 | exact (b7 _ (by omega)).1 | exact (b10 _ (by omega)).1 | (refine (xup_n (by omega)).trans ?_; first | assumption | exact xup_s | exact o0 | exact (b7 _ (by omega)).1 | exact (b10 _ (by omega)).1) | (refine (xup_n (by omega)).trans ((xup_n (by omega)).trans ?_); first | assumption | exact xup_s | exact o0 | exact (b7 _ (by omega)).1 | exact (b10 _ (by omega)).1) | (refine (xup_n (by omega)).trans ((xup_n (by omega)).trans ((xup_n (by omega)).trans ?_)); first | assumption | exact xup_s | exact o0 | exact (b7 _ (by omega)).1 | exact (b10 _ (by omega)).1)) (by rfl) ?_
    refine xs_get 10 r_119_7 rfl rfl (by first | assumption | exact xup_s | exact o0 | exact (b7 _ (by omega)).1 | exact (b10 _ (by omega)).1 | (refine (xup_n (by omega)).trans ?_; first | assumption | exact xup_s | exact o0 | exact (b7 _ (by omega)).1 | exact (b10 _ (by omega)).1) | (refine (xup_n (by omega)).trans ((xup_n (by omega)).trans ?_); first | assumption | exact xup_s | exact o0 | exact (b7 _ (by omega)).1 | exact (b10 _ (by omega)).1) | (refine (xup_n (by omega)).trans ((xup_n (by omega)).trans ((xup_n (by omega)).trans ?_)); first | assumption | exact xup_s | exact o0 | exact (b7 _ (by omega)).1 | exact (b10 _ (by omega)).1)) (by rfl) ?_
    refine xs_if 33 13 r_119_10 rfl (fun hc1 => ?_) (fun hc1 => ?_)
    · have hc1 := (nI_leN rfl rfl (by omega) (by omega)).mp hc1
      refine xs_thr r_119_33 rfl ?_
      exact cqx k1 (by
        have e9 : fnd (fun i => decide (nI (cntB (prec pl i) np) = p)) np = np := fnd_no (fun j hjm => decide_eq_false (hj j (by omega)))
        unfold R_by
        dsimp only
        rw [e9, if_neg (by omega)]
        rfl)
    · have hc1 := mt (nI_leN rfl rfl (by omega) (by omega)).mpr hc1
      refine xs_f 14 r_119_13 rfl ?_
      refine xs_get 17 r_119_14 rfl rfl (by first | assumption | exact xup_s | exact o0 | exact (b7 _ (by omega)).1 | exact (b10 _ (by omega)).1 | (refine (xup_n (by omega)).trans ?_; first | assumption | exact xup_s | exact o0 | exact (b7 _ (by omega)).1 | exact (b10 _ (by omega)).1) | (refine (xup_n (by omega)).trans ((xup_n (by omega)).trans ?_); first | assumption | exact xup_s | exact o0 | exact (b7 _ (by omega)).1 | exact (b10 _ (by omega)).1) | (refine (xup_n (by omega)).trans ((xup_n (by omega)).trans ((xup_n (by omega)).trans ?_)); first | assumption | exact xup_s | exact o0 | exact (b7 _ (by omega)).1 | exact (b10 _ (by omega)).1)) (by rfl) ?_
      refine xs_f 18 r_119_17 rfl ?_
      refine xs_call (lv2 := [(0, _), (1, _)]) r_119_18 rfl rfl (by decide) (xcan_0 rfl rfl (by first | assumption | exact xup_s | exact o0 | exact (b7 _ (by omega)).1 | exact (b10 _ (by omega)).1 | (refine (xup_n (by omega)).trans ?_; first | assumption | exact xup_s | exact o0 | exact (b7 _ (by omega)).1 | exact (b10 _ (by omega)).1) | (refine (xup_n (by omega)).trans ((xup_n (by omega)).trans ?_); first | assumption | exact xup_s | exact o0 | exact (b7 _ (by omega)).1 | exact (b10 _ (by omega)).1) | (refine (xup_n (by omega)).trans ((xup_n (by omega)).trans ((xup_n (by omega)).trans ?_)); first | assumption | exact xup_s | exact o0 | exact (b7 _ (by omega)).1 | exact (b10 _ (by omega)).1)) (by rfl)) rfl (c_32 hB h32 (x := i) (by omega) ?_)
      refine xK_v rfl ?_
      refine xs_f 22 r_119_21 rfl ?_
      refine xs_if 25 27 r_119_22 rfl (fun he => ?_) (fun he => ?_)
      · refine xs_f 26 r_119_25 rfl ?_
        refine xs_ret r_119_26 rfl ?_
        exact cq0 k0 (by
          have e9 : fnd (fun i => decide (nI (cntB (prec pl i) np) = p)) np = i := fnd_at (by omega) (decide_eq_true he) (fun j hj2 => decide_eq_false (hj j hj2))
          unfold R_by
          dsimp only
          rw [e9, if_pos (by omega)]
          rfl)
      · refine xs_f 30 (lv2 := [(2, _), (0, _), (1, _)]) r_119_27 rfl ?_
        refine xs_f 2 r_119_30 rfl ?_
        exact xP_lv [(0, .ref e), (1, .int p), (2, .int (nI (i + 1)))] rfl ⟨rfl, rfl, (by rw [nI_succ]; rfl), trivial⟩ (ih (i + 1) (by omega) (by omega) (fun j hj2 => by
          rcases Nat.lt_or_ge j i with z | z
          · exact hj j z
          · rw [show j = i by omega]; exact he))

theorem e_119 {S : XSc} {d : Nat} {h : XH} {Q : XO → XH → Prop} {b np no : Nat} {nn : Int32} {sc : Nat} {ho : Int32} {TS TH tr : Nat → Int32} {pl : Nat → XPl} {q : Nat → XQu} {s : Nat → Nat} {R : Nat → Nat → Nat} {e w1 w2 w3 w4 w5 : Nat} {i1 i2 i3 : Int32} (o0 : h.1 e = some (.inr (8, [.ref b, .ref w1, .ref w2, .ref w3, .ref w4, .ref w5, .int i1, .int i2, .int i3]))) (hB : BdP h.1 b np no nn sc ho TS TH tr pl q s R) (h32 : 32 ≤ b)  {p : Int32} (k0 : (R_by np pl p).1 = 0 → Q (.inl (some (.int (R_by np pl p).2))) h) (k1 : (R_by np pl p).1 = 1 → Q (.inr 5) (xbump h)) : xP S (d + 4) 119 0 [(0, .ref e), (1, .int p)] [] h Q := by
  obtain ⟨b1, ⟨b2n, b2o, b2s⟩, b3, b4, b5, b6, b7, b8, b9, b10⟩ := id hB
  refine xs_f 1 r_119_0 rfl ?_
  refine xs_f 2 (lv2 := [(2, _), (0, _), (1, _)]) r_119_1 rfl ?_
  exact xP_lv [(0, .ref e), (1, .int p), (2, .int (nI 0))] rfl ⟨rfl, rfl, rfl, trivial⟩ (el_119 o0 hB h32 k0 k1 (np + 1) 0 (by omega) (by omega) (fun j hj => absurd hj (Nat.not_lt_zero _)))

theorem e_120 {S : XSc} {d : Nat} {h : XH} {Q : XO → XH → Prop} {b np no : Nat} {nn : Int32} {sc : Nat} {ho : Int32} {TS TH tr : Nat → Int32} {pl : Nat → XPl} {q : Nat → XQu} {s : Nat → Nat} {R : Nat → Nat → Nat} {e w1 w2 w3 w4 w5 : Nat} {i1 i2 i3 : Int32} (o0 : h.1 e = some (.inr (8, [.ref b, .ref w1, .ref w2, .ref w3, .ref w4, .ref w5, .int i1, .int i2, .int i3]))) (hB : BdP h.1 b np no nn sc ho TS TH tr pl q s R) (h32 : 32 ≤ b) {c : Int32} (k0 : (R_bin TS c).1 = 0 → Q (.inl (some (.int (R_bin TS c).2))) h) (k1 : (R_bin TS c).1 = 1 → Q (.inr 1) (xbump h)) : xP S (d + 2) 120 0 [(0, .ref e), (1, .int c)] [] h Q := by
  obtain ⟨b1, ⟨b2n, b2o, b2s⟩, b3, b4, b5, b6, b7, b8, b9, b10⟩ := id hB
  refine xs_f 1 r_120_0 rfl ?_
  refine xs_call (lv2 := [(0, _)]) r_120_1 rfl rfl (by decide) (xcan_1 rfl) rfl ?_
  refine xs_f 1 r_138_0 rfl ?_
  refine xs_call (lv2 := [(0, _)]) r_138_1 rfl rfl (by decide) (xcan_1 rfl) rfl (c_137 (fun hb => ?_) (fun hb => ?_))
  · obtain ⟨j, h1, h9, hcj⟩ := xconf_nI hb
    have hcl : c.toNatClampNeg = j := by rw [hcj]; exact nI_clamp (by omega)
    refine xK_v rfl ?_
    refine xs_f 18 r_138_4 rfl ?_
    refine xs_ret r_138_18 rfl ?_
    refine xK_0 rfl ?_
    refine xs_f 5 r_120_4 rfl ?_
    refine xs_get 8 r_120_5 rfl rfl (by first | assumption | exact xup_s | exact b5.1 | exact o0 | exact (b7 _ (by omega)).1 | exact (b10 _ (by omega)).1 | (refine (xup_n (by omega)).trans ?_; first | assumption | exact xup_s | exact b5.1 | exact o0 | exact (b7 _ (by omega)).1 | exact (b10 _ (by omega)).1) | (refine (xup_n (by omega)).trans ((xup_n (by omega)).trans ?_); first | assumption | exact xup_s | exact b5.1 | exact o0 | exact (b7 _ (by omega)).1 | exact (b10 _ (by omega)).1) | (refine (xup_n (by omega)).trans ((xup_n (by omega)).trans ((xup_n (by omega)).trans ?_)); first | assumption | exact xup_s | exact b5.1 | exact o0 | exact (b7 _ (by omega)).1 | exact (b10 _ (by omega)).1)) (by rfl) ?_
    refine xs_get 11 r_120_8 rfl rfl (by first | assumption | exact xup_s | exact b5.1 | exact o0 | exact (b7 _ (by omega)).1 | exact (b10 _ (by omega)).1 | (refine (xup_n (by omega)).trans ?_; first | assumption | exact xup_s | exact b5.1 | exact o0 | exact (b7 _ (by omega)).1 | exact (b10 _ (by omega)).1) | (refine (xup_n (by omega)).trans ((xup_n (by omega)).trans ?_); first | assumption | exact xup_s | exact b5.1 | exact o0 | exact (b7 _ (by omega)).1 | exact (b10 _ (by omega)).1) | (refine (xup_n (by omega)).trans ((xup_n (by omega)).trans ((xup_n (by omega)).trans ?_)); first | assumption | exact xup_s | exact b5.1 | exact o0 | exact (b7 _ (by omega)).1 | exact (b10 _ (by omega)).1)) (by rfl) ?_
    refine xs_f 12 r_120_11 rfl ?_
    subst hcj
    refine xs_call (lv2 := [(0, _), (1, _)]) r_120_12 rfl rfl (by decide) (xcan_0 rfl rfl (by first | assumption | exact xup_s | exact b5.1 | exact o0 | exact (b7 _ (by omega)).1 | exact (b10 _ (by omega)).1 | (refine (xup_n (by omega)).trans ?_; first | assumption | exact xup_s | exact b5.1 | exact o0 | exact (b7 _ (by omega)).1 | exact (b10 _ (by omega)).1) | (refine (xup_n (by omega)).trans ((xup_n (by omega)).trans ?_); first | assumption | exact xup_s | exact b5.1 | exact o0 | exact (b7 _ (by omega)).1 | exact (b10 _ (by omega)).1) | (refine (xup_n (by omega)).trans ((xup_n (by omega)).trans ((xup_n (by omega)).trans ?_)); first | assumption | exact xup_s | exact b5.1 | exact o0 | exact (b7 _ (by omega)).1 | exact (b10 _ (by omega)).1)) (by rfl)) rfl (c_4 b5 (by omega) h1 h9 ?_)
    refine xK_v rfl ?_
    refine xs_ret r_120_15 rfl ?_
    first
      | exact cq0 k0 ((if_pos hb).trans (by rw [hcl]))
      | exact cqx k1 (if_neg hb)
  · refine xK_v rfl ?_
    refine xs_f 7 r_138_4 rfl ?_
    refine xs_thr r_138_7 rfl ?_
    refine xK_e rfl rfl ?_
    first
      | exact cq0 k0 ((if_pos hb).trans (by rw [hcl]))
      | exact cqx k1 (if_neg hb)

theorem e_122 {S : XSc} {d : Nat} {h : XH} {Q : XO → XH → Prop} {b np no : Nat} {nn : Int32} {sc : Nat} {ho : Int32} {TS TH tr : Nat → Int32} {pl : Nat → XPl} {q : Nat → XQu} {s : Nat → Nat} {R : Nat → Nat → Nat} {e w1 w2 w3 w4 w5 : Nat} {i1 i2 i3 : Int32} (o0 : h.1 e = some (.inr (8, [.ref b, .ref w1, .ref w2, .ref w3, .ref w4, .ref w5, .int i1, .int i2, .int i3]))) (hB : BdP h.1 b np no nn sc ho TS TH tr pl q s R) (h32 : 32 ≤ b) {c : Int32} (k0 : (R_bin TH c).1 = 0 → Q (.inl (some (.int (R_bin TH c).2))) h) (k1 : (R_bin TH c).1 = 1 → Q (.inr 1) (xbump h)) : xP S (d + 2) 122 0 [(0, .ref e), (1, .int c)] [] h Q := by
  obtain ⟨b1, ⟨b2n, b2o, b2s⟩, b3, b4, b5, b6, b7, b8, b9, b10⟩ := id hB
  refine xs_f 1 r_122_0 rfl ?_
  refine xs_call (lv2 := [(0, _)]) r_122_1 rfl rfl (by decide) (xcan_1 rfl) rfl ?_
  refine xs_f 1 r_138_0 rfl ?_
  refine xs_call (lv2 := [(0, _)]) r_138_1 rfl rfl (by decide) (xcan_1 rfl) rfl (c_137 (fun hb => ?_) (fun hb => ?_))
  · obtain ⟨j, h1, h9, hcj⟩ := xconf_nI hb
    have hcl : c.toNatClampNeg = j := by rw [hcj]; exact nI_clamp (by omega)
    refine xK_v rfl ?_
    refine xs_f 18 r_138_4 rfl ?_
    refine xs_ret r_138_18 rfl ?_
    refine xK_0 rfl ?_
    refine xs_f 5 r_122_4 rfl ?_
    refine xs_get 8 r_122_5 rfl rfl (by first | assumption | exact xup_s | exact b5.1 | exact o0 | exact (b7 _ (by omega)).1 | exact (b10 _ (by omega)).1 | (refine (xup_n (by omega)).trans ?_; first | assumption | exact xup_s | exact b5.1 | exact o0 | exact (b7 _ (by omega)).1 | exact (b10 _ (by omega)).1) | (refine (xup_n (by omega)).trans ((xup_n (by omega)).trans ?_); first | assumption | exact xup_s | exact b5.1 | exact o0 | exact (b7 _ (by omega)).1 | exact (b10 _ (by omega)).1) | (refine (xup_n (by omega)).trans ((xup_n (by omega)).trans ((xup_n (by omega)).trans ?_)); first | assumption | exact xup_s | exact b5.1 | exact o0 | exact (b7 _ (by omega)).1 | exact (b10 _ (by omega)).1)) (by rfl) ?_
    refine xs_get 11 r_122_8 rfl rfl (by first | assumption | exact xup_s | exact b5.1 | exact o0 | exact (b7 _ (by omega)).1 | exact (b10 _ (by omega)).1 | (refine (xup_n (by omega)).trans ?_; first | assumption | exact xup_s | exact b5.1 | exact o0 | exact (b7 _ (by omega)).1 | exact (b10 _ (by omega)).1) | (refine (xup_n (by omega)).trans ((xup_n (by omega)).trans ?_); first | assumption | exact xup_s | exact b5.1 | exact o0 | exact (b7 _ (by omega)).1 | exact (b10 _ (by omega)).1) | (refine (xup_n (by omega)).trans ((xup_n (by omega)).trans ((xup_n (by omega)).trans ?_)); first | assumption | exact xup_s | exact b5.1 | exact o0 | exact (b7 _ (by omega)).1 | exact (b10 _ (by omega)).1)) (by rfl) ?_
    refine xs_f 12 r_122_11 rfl ?_
    subst hcj
    refine xs_call (lv2 := [(0, _), (1, _)]) r_122_12 rfl rfl (by decide) (xcan_0 rfl rfl (by first | assumption | exact xup_s | exact b5.1 | exact o0 | exact (b7 _ (by omega)).1 | exact (b10 _ (by omega)).1 | (refine (xup_n (by omega)).trans ?_; first | assumption | exact xup_s | exact b5.1 | exact o0 | exact (b7 _ (by omega)).1 | exact (b10 _ (by omega)).1) | (refine (xup_n (by omega)).trans ((xup_n (by omega)).trans ?_); first | assumption | exact xup_s | exact b5.1 | exact o0 | exact (b7 _ (by omega)).1 | exact (b10 _ (by omega)).1) | (refine (xup_n (by omega)).trans ((xup_n (by omega)).trans ((xup_n (by omega)).trans ?_)); first | assumption | exact xup_s | exact b5.1 | exact o0 | exact (b7 _ (by omega)).1 | exact (b10 _ (by omega)).1)) (by rfl)) rfl (c_5 b5 (by omega) h1 h9 ?_)
    refine xK_v rfl ?_
    refine xs_ret r_122_15 rfl ?_
    first
      | exact cq0 k0 ((if_pos hb).trans (by rw [hcl]))
      | exact cqx k1 (if_neg hb)
  · refine xK_v rfl ?_
    refine xs_f 7 r_138_4 rfl ?_
    refine xs_thr r_138_7 rfl ?_
    refine xK_e rfl rfl ?_
    first
      | exact cq0 k0 ((if_pos hb).trans (by rw [hcl]))
      | exact cqx k1 (if_neg hb)

theorem e_121 {S : XSc} {d : Nat} {h : XH} {Q : XO → XH → Prop} {b np no : Nat} {nn : Int32} {sc : Nat} {ho : Int32} {TS TH tr : Nat → Int32} {pl : Nat → XPl} {q : Nat → XQu} {s : Nat → Nat} {R : Nat → Nat → Nat} {e w1 w2 w3 w4 w5 : Nat} {i1 i2 i3 : Int32} (o0 : h.1 e = some (.inr (8, [.ref b, .ref w1, .ref w2, .ref w3, .ref w4, .ref w5, .int i1, .int i2, .int i3]))) (hB : BdP h.1 b np no nn sc ho TS TH tr pl q s R) (h32 : 32 ≤ b) {c : Int32} (k0 : (R_bin (fun j => xsum (fun i => (pl i).2.2.2.1 j) np) c).1 = 0 → Q (.inl (some (.int (R_bin (fun j => xsum (fun i => (pl i).2.2.2.1 j) np) c).2))) h) (k1 : (R_bin (fun j => xsum (fun i => (pl i).2.2.2.1 j) np) c).1 = 1 → Q (.inr 1) (xbump h)) : xP S (d + 3) 121 0 [(0, .ref e), (1, .int c)] [] h Q := by
  obtain ⟨b1, ⟨b2n, b2o, b2s⟩, b3, b4, b5, b6, b7, b8, b9, b10⟩ := id hB
  refine xs_f 1 r_121_0 rfl ?_
  refine xs_call (lv2 := [(0, _)]) r_121_1 rfl rfl (by decide) (xcan_1 rfl) rfl ?_
  refine xs_f 1 r_138_0 rfl ?_
  refine xs_call (lv2 := [(0, _)]) r_138_1 rfl rfl (by decide) (xcan_1 rfl) rfl (c_137 (fun hb => ?_) (fun hb => ?_))
  · obtain ⟨j, h1, h9, hcj⟩ := xconf_nI hb
    have hcl : c.toNatClampNeg = j := by rw [hcj]; exact nI_clamp (by omega)
    refine xK_v rfl ?_
    refine xs_f 18 r_138_4 rfl ?_
    refine xs_ret r_138_18 rfl ?_
    refine xK_0 rfl ?_
    refine xs_f 5 r_121_4 rfl ?_
    refine xs_get 8 r_121_5 rfl rfl (by first | assumption | exact xup_s | exact o0 | exact (b7 _ (by omega)).1 | exact (b10 _ (by omega)).1 | (refine (xup_n (by omega)).trans ?_; first | assumption | exact xup_s | exact o0 | exact (b7 _ (by omega)).1 | exact (b10 _ (by omega)).1) | (refine (xup_n (by omega)).trans ((xup_n (by omega)).trans ?_); first | assumption | exact xup_s | exact o0 | exact (b7 _ (by omega)).1 | exact (b10 _ (by omega)).1) | (refine (xup_n (by omega)).trans ((xup_n (by omega)).trans ((xup_n (by omega)).trans ?_)); first | assumption | exact xup_s | exact o0 | exact (b7 _ (by omega)).1 | exact (b10 _ (by omega)).1)) (by rfl) ?_
    refine xs_f 9 r_121_8 rfl ?_
    subst hcj
    refine xs_call (lv2 := [(0, _), (1, _)]) r_121_9 rfl rfl (by decide) (xcan_0 rfl rfl (by first | assumption | exact xup_s | exact o0 | exact (b7 _ (by omega)).1 | exact (b10 _ (by omega)).1 | (refine (xup_n (by omega)).trans ?_; first | assumption | exact xup_s | exact o0 | exact (b7 _ (by omega)).1 | exact (b10 _ (by omega)).1) | (refine (xup_n (by omega)).trans ((xup_n (by omega)).trans ?_); first | assumption | exact xup_s | exact o0 | exact (b7 _ (by omega)).1 | exact (b10 _ (by omega)).1) | (refine (xup_n (by omega)).trans ((xup_n (by omega)).trans ((xup_n (by omega)).trans ?_)); first | assumption | exact xup_s | exact o0 | exact (b7 _ (by omega)).1 | exact (b10 _ (by omega)).1)) (by rfl)) rfl (c_30 hB h32 h1 h9 ?_)
    refine xK_v rfl ?_
    refine xs_ret r_121_12 rfl ?_
    first
      | exact cq0 k0 ((if_pos hb).trans (by rw [hcl]))
      | exact cqx k1 (if_neg hb)
  · refine xK_v rfl ?_
    refine xs_f 7 r_138_4 rfl ?_
    refine xs_thr r_138_7 rfl ?_
    refine xK_e rfl rfl ?_
    first
      | exact cq0 k0 ((if_pos hb).trans (by rw [hcl]))
      | exact cqx k1 (if_neg hb)

theorem e_127 {S : XSc} {d : Nat} {h : XH} {Q : XO → XH → Prop} {b np no : Nat} {nn : Int32} {sc : Nat} {ho : Int32} {TS TH tr : Nat → Int32} {pl : Nat → XPl} {q : Nat → XQu} {s : Nat → Nat} {R : Nat → Nat → Nat} {e w1 w2 w3 w4 w5 : Nat} {i1 i2 i3 : Int32} (o0 : h.1 e = some (.inr (8, [.ref b, .ref w1, .ref w2, .ref w3, .ref w4, .ref w5, .int i1, .int i2, .int i3]))) (hB : BdP h.1 b np no nn sc ho TS TH tr pl q s R) (h32 : 32 ≤ b) (hz : True) (k0 : (if i2 = -1 then ((1, 0) : XR) else (0, i2)).1 = 0 → Q (.inl (some (.int (if i2 = -1 then ((1, 0) : XR) else (0, i2)).2))) h) (k1 : (if i2 = -1 then ((1, 0) : XR) else (0, i2)).1 = 1 → Q (.inr 5) (xbump h)) : xP S d 127 0 [(0, .ref e)] [] h Q := by
  obtain ⟨b1, ⟨b2n, b2o, b2s⟩, b3, b4, b5, b6, b7, b8, b9, b10⟩ := id hB
  refine xs_f 1 r_127_0 rfl ?_
  refine xs_get 4 r_127_1 rfl rfl (by first | assumption | exact xup_s | exact o0 | exact (b7 _ (by omega)).1 | exact (b10 _ (by omega)).1 | (refine (xup_n (by omega)).trans ?_; first | assumption | exact xup_s | exact o0 | exact (b7 _ (by omega)).1 | exact (b10 _ (by omega)).1) | (refine (xup_n (by omega)).trans ((xup_n (by omega)).trans ?_); first | assumption | exact xup_s | exact o0 | exact (b7 _ (by omega)).1 | exact (b10 _ (by omega)).1) | (refine (xup_n (by omega)).trans ((xup_n (by omega)).trans ((xup_n (by omega)).trans ?_)); first | assumption | exact xup_s | exact o0 | exact (b7 _ (by omega)).1 | exact (b10 _ (by omega)).1)) (by rfl) ?_
  refine xs_f 5 r_127_4 rfl ?_
  refine xs_if 8 19 r_127_5 rfl (fun hc1 => ?_) (fun hc1 => ?_)
  · refine xs_thr r_127_8 rfl ?_
    first
      | exact cq0 k0 (if_neg hc1)
      | exact cqx k1 (if_pos hc1)
  · refine xs_f 20 r_127_19 rfl ?_
    refine xs_get 23 r_127_20 rfl rfl (by first | assumption | exact xup_s | exact o0 | exact (b7 _ (by omega)).1 | exact (b10 _ (by omega)).1 | (refine (xup_n (by omega)).trans ?_; first | assumption | exact xup_s | exact o0 | exact (b7 _ (by omega)).1 | exact (b10 _ (by omega)).1) | (refine (xup_n (by omega)).trans ((xup_n (by omega)).trans ?_); first | assumption | exact xup_s | exact o0 | exact (b7 _ (by omega)).1 | exact (b10 _ (by omega)).1) | (refine (xup_n (by omega)).trans ((xup_n (by omega)).trans ((xup_n (by omega)).trans ?_)); first | assumption | exact xup_s | exact o0 | exact (b7 _ (by omega)).1 | exact (b10 _ (by omega)).1)) (by rfl) ?_
    refine xs_ret r_127_23 rfl ?_
    first
      | exact cq0 k0 (if_neg hc1)
      | exact cqx k1 (if_pos hc1)

theorem e_128 {S : XSc} {d : Nat} {h : XH} {Q : XO → XH → Prop} {b np no : Nat} {nn : Int32} {sc : Nat} {ho : Int32} {TS TH tr : Nat → Int32} {pl : Nat → XPl} {q : Nat → XQu} {s : Nat → Nat} {R : Nat → Nat → Nat} {e w1 w2 w3 w4 w5 : Nat} {i1 i2 i3 : Int32} (o0 : h.1 e = some (.inr (8, [.ref b, .ref w1, .ref w2, .ref w3, .ref w4, .ref w5, .int i1, .int i2, .int i3]))) (hB : BdP h.1 b np no nn sc ho TS TH tr pl q s R) (h32 : 32 ≤ b) (hz : True) (k0 : (if i3 = -1 then ((1, 0) : XR) else (0, i3)).1 = 0 → Q (.inl (some (.int (if i3 = -1 then ((1, 0) : XR) else (0, i3)).2))) h) (k1 : (if i3 = -1 then ((1, 0) : XR) else (0, i3)).1 = 1 → Q (.inr 5) (xbump h)) : xP S d 128 0 [(0, .ref e)] [] h Q := by
  obtain ⟨b1, ⟨b2n, b2o, b2s⟩, b3, b4, b5, b6, b7, b8, b9, b10⟩ := id hB
  refine xs_f 1 r_128_0 rfl ?_
  refine xs_get 4 r_128_1 rfl rfl (by first | assumption | exact xup_s | exact o0 | exact (b7 _ (by omega)).1 | exact (b10 _ (by omega)).1 | (refine (xup_n (by omega)).trans ?_; first | assumption | exact xup_s | exact o0 | exact (b7 _ (by omega)).1 | exact (b10 _ (by omega)).1) | (refine (xup_n (by omega)).trans ((xup_n (by omega)).trans ?_); first | assumption | exact xup_s | exact o0 | exact (b7 _ (by omega)).1 | exact (b10 _ (by omega)).1) | (refine (xup_n (by omega)).trans ((xup_n (by omega)).trans ((xup_n (by omega)).trans ?_)); first | assumption | exact xup_s | exact o0 | exact (b7 _ (by omega)).1 | exact (b10 _ (by omega)).1)) (by rfl) ?_
  refine xs_f 5 r_128_4 rfl ?_
  refine xs_if 8 19 r_128_5 rfl (fun hc1 => ?_) (fun hc1 => ?_)
  · refine xs_thr r_128_8 rfl ?_
    first
      | exact cq0 k0 (if_neg hc1)
      | exact cqx k1 (if_pos hc1)
  · refine xs_f 20 r_128_19 rfl ?_
    refine xs_get 23 r_128_20 rfl rfl (by first | assumption | exact xup_s | exact o0 | exact (b7 _ (by omega)).1 | exact (b10 _ (by omega)).1 | (refine (xup_n (by omega)).trans ?_; first | assumption | exact xup_s | exact o0 | exact (b7 _ (by omega)).1 | exact (b10 _ (by omega)).1) | (refine (xup_n (by omega)).trans ((xup_n (by omega)).trans ?_); first | assumption | exact xup_s | exact o0 | exact (b7 _ (by omega)).1 | exact (b10 _ (by omega)).1) | (refine (xup_n (by omega)).trans ((xup_n (by omega)).trans ((xup_n (by omega)).trans ?_)); first | assumption | exact xup_s | exact o0 | exact (b7 _ (by omega)).1 | exact (b10 _ (by omega)).1)) (by rfl) ?_
    refine xs_ret r_128_23 rfl ?_
    first
      | exact cq0 k0 (if_neg hc1)
      | exact cqx k1 (if_pos hc1)

