/-! the class writes a question -/
theorem SbX.b {B0 n : Nat} {L : Nat → Int32} {h : XH} (hX : SbX B0 h n L) : 809 ≤ B0 := by
  obtain ⟨cap, v, Bt, k, hC⟩ := hX
  exact hC.2.2.2.2.2.2.2.2
theorem SbX.z {B0 : Nat} {L L2 : Nat → Int32} {h : XH} (hX : SbX B0 h 0 L) : SbX B0 h 0 L2 := by
  obtain ⟨cap, v, Bt, k, h1, h2, h3, h4⟩ := hX
  exact ⟨cap, v, Bt, k, h1, h2, fun j hj => absurd hj (Nat.not_lt_zero _), h4⟩
theorem xcan_b {w : Nat × (Nat × Nat)} {as : List Value} {B0 n : Nat} {L : Nat → Int32} {h : XH} (hn : (Nat.ble (lg_sl (.ref 807 :: as)).length w.1 && (!Nat.beq w.2.2 200 && Nat.beq 10 w.2.2)) = true) (hX : SbX B0 h n L) : xcan 32 0 w h (.ref 807 :: as) = true := by
  obtain ⟨fs, o⟩ := hX.o
  obtain ⟨h1, h23⟩ := Bool.and_eq_true_iff.mp hn
  obtain ⟨h2, h3⟩ := Bool.and_eq_true_iff.mp h23
  exact xcan_0 h1 (by cases hz : Nat.beq w.2.2 200; rfl; rw [hz] at h2; cases h2) o h3
theorem e_147 {S : XSc} {d : Nat} {h : XH} {Q : XO → XH → Prop} {b w1 w2 w3 w4 e ea : Nat} {i1 i2 i3 : Int32} (o0 : h.1 e = some (.inr (8, [.ref b, .ref w1, .ref w2, .ref w3, .ref w4, .ref 807, .int i1, .int i2, .int i3]))) {x : XEst} (hE : h.1 ea = some (.inr (4, eL x))) (he : e < 807) (hea : ea < 807) {B0 n : Nat} {L : Nat → Int32} (hX : SbX B0 h n L) (hW : okW x) (hn : n + 17 ≤ 100) (k9 : ∀ h2, SbX B0 h2 (wrE x (n, L)).1 (wrE x (n, L)).2 → Fw B0 h h2 8 1760 → Q (.inl none) h2) : xP S (d + 5) 147 0 [(0, .ref e), (1, .ref ea)] [] h Q := by
  have hB9 := hX.b
  have E0 := hE
  obtain ⟨v0, v1, v2, v3, ⟨e0, z0⟩, ⟨e1, z1⟩, ⟨e2, z2⟩, ⟨e3, z3⟩⟩ := hW
  have a0 := ndg_3 z0
  have a1 := ndg_3 z1
  have a2 := ndg_3 z2
  have q0 : ((n, L) : XL).1 = n := rfl
  have q1 := wrA_1 (x := 32) (v := v0) (s := (n, L))
  have q2 := wrA_1 (x := 58) (v := v1) (s := (wrA 32 v0 (n, L)))
  have q3 := wrA_1 (x := 45) (v := v2) (s := (wrA 58 v1 (wrA 32 v0 (n, L))))
  refine xs_f 1 r_147_0 rfl ?_
  refine xs_get 4 r_147_1 rfl rfl o0 (by rfl) ?_
  refine xs_f 6 r_147_4 rfl ?_
  refine xs_call (lv2 := [(0, _), (1, _)]) r_147_6 rfl rfl (by decide) (xcan_b rfl hX) rfl (xP_lv [(0, .ref 807), (1, .int (nI 32))] rfl ⟨rfl, rfl, trivial⟩ (e_293 hX (by show (n, L).1 < 100; omega) (x := 32) (by omega) (fun h1 hX1 u1 => ?_)))
  have w1 := u1
  have o1 := (w1.1 e (by omega) (by omega) (by omega)).trans o0
  have E1 := (w1.1 ea (by omega) (by omega) (by omega)).trans hE
  refine xK_v rfl ?_
  refine xs_f 10 r_147_9 rfl ?_
  refine xs_get 13 r_147_10 rfl rfl E1 (by rfl) ?_
  refine xs_call (lv2 := [(0, _), (1, _)]) r_147_13 rfl rfl (by decide) (xcan_b rfl hX1) rfl (xP_lv [(0, .ref 807), (1, .int (nI v0))] rfl ⟨rfl, (congrArg (fun z => some (Value.int z)) e0), trivial⟩ (e_294 hX1 (by show (n, L).1 + 1 + 4 ≤ 100; omega) (x := v0) (by omega) (fun h2 hX2 u2 => ?_)))
  have w2 := w1.tr u2
  have o2 := (w2.1 e (by omega) (by omega) (by omega)).trans o0
  have E2 := (w2.1 ea (by omega) (by omega) (by omega)).trans hE
  refine xK_v rfl ?_
  refine xs_f 18 r_147_16 rfl ?_
  refine xs_call (lv2 := [(0, _), (1, _)]) r_147_18 rfl rfl (by decide) (xcan_b rfl hX2) rfl (xP_lv [(0, .ref 807), (1, .int (nI 58))] rfl ⟨rfl, rfl, trivial⟩ (e_293 hX2 (by show (wrA 32 v0 (n, L)).1 < 100; omega) (x := 58) (by omega) (fun h3 hX3 u3 => ?_)))
  have w3 := w2.tr u3
  have o3 := (w3.1 e (by omega) (by omega) (by omega)).trans o0
  have E3 := (w3.1 ea (by omega) (by omega) (by omega)).trans hE
  refine xK_v rfl ?_
  refine xs_f 22 r_147_21 rfl ?_
  refine xs_get 25 r_147_22 rfl rfl E3 (by rfl) ?_
  refine xs_call (lv2 := [(0, _), (1, _)]) r_147_25 rfl rfl (by decide) (xcan_b rfl hX3) rfl (xP_lv [(0, .ref 807), (1, .int (nI v1))] rfl ⟨rfl, (congrArg (fun z => some (Value.int z)) e1), trivial⟩ (e_294 hX3 (by show (wrA 32 v0 (n, L)).1 + 1 + 4 ≤ 100; omega) (x := v1) (by omega) (fun h4 hX4 u4 => ?_)))
  have w4 := w3.tr u4
  have o4 := (w4.1 e (by omega) (by omega) (by omega)).trans o0
  have E4 := (w4.1 ea (by omega) (by omega) (by omega)).trans hE
  refine xK_v rfl ?_
  refine xs_f 29 r_147_28 rfl ?_
  refine xs_f 30 r_147_29 rfl ?_
  refine xs_get 33 r_147_30 rfl rfl o4 (by rfl) ?_
  refine xs_f 35 r_147_33 rfl ?_
  refine xs_call (lv2 := [(0, _), (1, _)]) r_147_35 rfl rfl (by decide) (xcan_b rfl hX4) rfl (xP_lv [(0, .ref 807), (1, .int (nI 45))] rfl ⟨rfl, rfl, trivial⟩ (e_293 hX4 (by show (wrA 58 v1 (wrA 32 v0 (n, L))).1 < 100; omega) (x := 45) (by omega) (fun h5 hX5 u5 => ?_)))
  have w5 := w4.tr u5
  have o5 := (w5.1 e (by omega) (by omega) (by omega)).trans o0
  have E5 := (w5.1 ea (by omega) (by omega) (by omega)).trans hE
  refine xK_v rfl ?_
  refine xs_f 39 r_147_38 rfl ?_
  refine xs_get 42 r_147_39 rfl rfl E5 (by rfl) ?_
  refine xs_call (lv2 := [(0, _), (1, _)]) r_147_42 rfl rfl (by decide) (xcan_b rfl hX5) rfl (xP_lv [(0, .ref 807), (1, .int (nI v2))] rfl ⟨rfl, (congrArg (fun z => some (Value.int z)) e2), trivial⟩ (e_294 hX5 (by show (wrA 58 v1 (wrA 32 v0 (n, L))).1 + 1 + 4 ≤ 100; omega) (x := v2) (by omega) (fun h6 hX6 u6 => ?_)))
  have w6 := w5.tr u6
  have o6 := (w6.1 e (by omega) (by omega) (by omega)).trans o0
  have E6 := (w6.1 ea (by omega) (by omega) (by omega)).trans hE
  refine xK_v rfl ?_
  refine xs_f 47 r_147_45 rfl ?_
  refine xs_call (lv2 := [(0, _), (1, _)]) r_147_47 rfl rfl (by decide) (xcan_b rfl hX6) rfl (xP_lv [(0, .ref 807), (1, .int (nI 99))] rfl ⟨rfl, rfl, trivial⟩ (e_293 hX6 (by show (wrA 45 v2 (wrA 58 v1 (wrA 32 v0 (n, L)))).1 < 100; omega) (x := 99) (by omega) (fun h7 hX7 u7 => ?_)))
  have w7 := w6.tr u7
  have o7 := (w7.1 e (by omega) (by omega) (by omega)).trans o0
  have E7 := (w7.1 ea (by omega) (by omega) (by omega)).trans hE
  refine xK_v rfl ?_
  refine xs_f 51 r_147_50 rfl ?_
  refine xs_get 54 r_147_51 rfl rfl E7 (by rfl) ?_
  refine xs_call (lv2 := [(0, _), (1, _)]) r_147_54 rfl rfl (by decide) (xcan_b rfl hX7) rfl (xP_lv [(0, .ref 807), (1, .int (nI v3))] rfl ⟨rfl, (congrArg (fun z => some (Value.int z)) e3), trivial⟩ (e_294 hX7 (by show (wrA 45 v2 (wrA 58 v1 (wrA 32 v0 (n, L)))).1 + 1 + 4 ≤ 100; omega) (x := v3) (by omega) (fun h8 hX8 u8 => ?_)))
  have w8 := w7.tr u8
  have o8 := (w8.1 e (by omega) (by omega) (by omega)).trans o0
  have E8 := (w8.1 ea (by omega) (by omega) (by omega)).trans hE
  refine xK_v rfl ?_
  refine xs_f 58 r_147_57 rfl ?_
  refine xs_ret r_147_58 rfl ?_
  have ew : wrE x (n, L) = (wrA 99 v3 (wrA 45 v2 (wrA 58 v1 (wrA 32 v0 (n, L))))) := by
    unfold wrE
    rw [nv_n e0 z0, nv_n e1 z1, nv_n e2 z2, nv_n e3 z3]
  rw [ew] at k9
  exact k9 h8 hX8 w8

theorem el_129 {S : XSc} {d : Nat} {h : XH} {Q : XO → XH → Prop} {b np no : Nat} {nn : Int32} {sc : Nat} {ho : Int32} {TS TH tr : Nat → Int32} {pl : Nat → XPl} {q : Nat → XQu} {s : Nat → Nat} {R : Nat → Nat → Nat} {e w1 w2 w3 w4 : Nat} {i1 i2 i3 : Int32} (o0 : h.1 e = some (.inr (8, [.ref b, .ref w1, .ref w2, .ref w3, .ref w4, .ref 807, .int i1, .int i2, .int i3]))) (hB : BdP h.1 b np no nn sc ho TS TH tr pl q s R) (h32 : 32 ≤ b) (hb8 : b + 69 ≤ 807) (he : e < 807) {B0 : Nat} (hB9 : 809 ≤ B0) {n : Int32} (hq : (pla q no n) < no) {s0 : XL} (hs0 : s0.1 ≤ 10) (hE : ∀ r, r < (q (pla q no n)).2.2.1 → okW ((q (pla q no n)).2.2.2 r)) (kS : ∀ h2, SbX B0 h2 (wrS (q (pla q no n)).2.2.2 s0 (q (pla q no n)).2.2.1).1 (wrS (q (pla q no n)).2.2.2 s0 (q (pla q no n)).2.2.1).2 → Fw B0 h h2 60 13200 → Q (.inl (some (.int (nI (wrS (q (pla q no n)).2.2.2 s0 (q (pla q no n)).2.2.1).1)))) h2) : ∀ (m : Nat) (r : Nat) (h1 : XH), (q (pla q no n)).2.2.1 - r < m → (r ≤ (q (pla q no n)).2.2.1) → (SbX B0 h1 (wrS (q (pla q no n)).2.2.2 s0 r).1 (wrS (q (pla q no n)).2.2.2 s0 r).2) → (Fw B0 h h1 (5 + 8 * r) (1100 + 1760 * r)) → xP S (d + 6) 129 45 [(0, .ref e), (1, .int n), (2, .ref (b + 27 + 7 * s (pla q no n))), (3, .int (nI r))] [] h1 Q := by
  intro m
  induction m with
  | zero => intro r h1 hm; exact absurd hm (Nat.not_lt_zero _)
  | succ m ih =>
    intro r h1 hm hr hX1 hw
    obtain ⟨b1, ⟨b2n, b2o, b2s⟩, b3, b4, b5, b6, b7, b8, b9, b10⟩ := id (hB.fr (g := h1.1) (fun c z1 z2 => hw.1 c (by omega) (by omega) (by omega)))
    have o1 := (hw.1 e (by omega) (by omega) (by omega)).trans o0
    have hQ := b10 (pla q no n) (by omega)
    have hs6 := b8 (pla q no n) (by omega)
    obtain ⟨q1, q2, q3, q5, q6, q7⟩ := id hQ
    refine xs_f 46 r_129_45 rfl ?_
    refine xs_f 47 r_129_46 rfl ?_
    refine xs_get 50 r_129_47 rfl rfl (by first | assumption | exact xup_s | exact o1 | exact q1 | (refine (xup_n (by omega)).trans ?_; first | assumption | exact xup_s | exact o1 | exact q1) | (refine (xup_n (by omega)).trans ((xup_n (by omega)).trans ?_); first | assumption | exact xup_s | exact o1 | exact q1) | (refine (xup_n (by omega)).trans ((xup_n (by omega)).trans ((xup_n (by omega)).trans ?_)); first | assumption | exact xup_s | exact o1 | exact q1)) (by rfl) ?_
    refine xs_if 69 53 r_129_50 rfl (fun hc1 => ?_) (fun hc1 => ?_)
    · have hc1 := (nI_leN rfl rfl (by omega) (by omega)).mp hc1
      refine xs_f 70 r_129_69 rfl ?_
      refine xs_get 73 r_129_70 rfl rfl (by first | assumption | exact xup_s | exact o1 | exact q1 | (refine (xup_n (by omega)).trans ?_; first | assumption | exact xup_s | exact o1 | exact q1) | (refine (xup_n (by omega)).trans ((xup_n (by omega)).trans ?_); first | assumption | exact xup_s | exact o1 | exact q1) | (refine (xup_n (by omega)).trans ((xup_n (by omega)).trans ((xup_n (by omega)).trans ?_)); first | assumption | exact xup_s | exact o1 | exact q1)) (by rfl) ?_
      refine xs_call (lv2 := [(0, _)]) r_129_73 rfl rfl (by decide) (xcan_b rfl hX1) rfl (e_297 hX1 ?_)
      refine xK_v rfl ?_
      refine xs_ret r_129_76 rfl ?_
      have e9 : r = (q (pla q no n)).2.2.1 := by omega
      subst e9
      exact kS h1 hX1 (hw.le (by omega) (by omega))
    · have hc1 := mt (nI_leN rfl rfl (by omega) (by omega)).mpr hc1
      refine xs_f 54 r_129_53 rfl ?_
      refine xs_f 55 r_129_54 rfl ?_
      refine xs_get 58 r_129_55 rfl rfl (by first | assumption | exact xup_s | exact o1 | exact q1 | (refine (xup_n (by omega)).trans ?_; first | assumption | exact xup_s | exact o1 | exact q1) | (refine (xup_n (by omega)).trans ((xup_n (by omega)).trans ?_); first | assumption | exact xup_s | exact o1 | exact q1) | (refine (xup_n (by omega)).trans ((xup_n (by omega)).trans ((xup_n (by omega)).trans ?_)); first | assumption | exact xup_s | exact o1 | exact q1)) (by rfl) ?_
      refine xs_f 59 r_129_58 rfl ?_
      refine xs_aldR 60 r_129_59 (fun _ _ => rfl) rfl rfl rfl (j := r) rfl q3 (by omega) ?_
      have hr5 := q5 r (by omega)
      have bw := wrS_1 (s := s0) (r := r) (fun k hk => hE k (by omega))
      refine xs_call (lv2 := [(0, _), (1, _)]) r_129_60 rfl rfl (by decide) (xcan_0 rfl rfl (by first | assumption | exact xup_s | exact o1 | exact q1 | (refine (xup_n (by omega)).trans ?_; first | assumption | exact xup_s | exact o1 | exact q1) | (refine (xup_n (by omega)).trans ((xup_n (by omega)).trans ?_); first | assumption | exact xup_s | exact o1 | exact q1) | (refine (xup_n (by omega)).trans ((xup_n (by omega)).trans ((xup_n (by omega)).trans ?_)); first | assumption | exact xup_s | exact o1 | exact q1)) (by rfl)) rfl (e_147 (h := h1) o1 (q7 r (by omega)) he (by omega) hX1 (hE r (by omega)) (by omega) (fun h2 hX2 w2 => ?_))
      refine xK_0 rfl ?_
      refine xs_f 66 (lv2 := [(3, _), (0, _), (1, _), (2, _)]) r_129_63 rfl ?_
      refine xs_f 45 r_129_66 rfl ?_
      exact xP_lv [(0, .ref e), (1, .int n), (2, .ref (b + 27 + 7 * s (pla q no n))), (3, .int (nI (r + 1)))] rfl ⟨rfl, rfl, rfl, (by rw [nI_succ]; rfl), trivial⟩ (ih (r + 1) h2 (by omega) (by omega) hX2 ((hw.tr w2).le (by omega) (by omega)))

theorem e_129 {S : XSc} {d : Nat} {h : XH} {Q : XO → XH → Prop} {b np no : Nat} {nn : Int32} {sc : Nat} {ho : Int32} {TS TH tr : Nat → Int32} {pl : Nat → XPl} {q : Nat → XQu} {s : Nat → Nat} {R : Nat → Nat → Nat} {e w1 w2 w3 w4 : Nat} {i1 i2 i3 : Int32} (o0 : h.1 e = some (.inr (8, [.ref b, .ref w1, .ref w2, .ref w3, .ref w4, .ref 807, .int i1, .int i2, .int i3]))) (hB : BdP h.1 b np no nn sc ho TS TH tr pl q s R) (h32 : 32 ≤ b) (hb8 : b + 69 ≤ 807) (he : e < 807) {B0 : Nat} (hB9 : 809 ≤ B0) {n : Int32} {on : Nat} {Lo Lc : Nat → Int32} (hX : SbX B0 h on Lc) (hon : on ≤ 100) (hN : ∀ j, j < no → ∃ v, v < 1000 ∧ (q j).1 = nI v) (hWt : ∀ j, j < no → ∃ v, v < 1000 ∧ (q j).2.1 = nI v) (hE : ∀ j, j < no → ∀ r, r < (q j).2.2.1 → okW ((q j).2.2.2 r)) (kF : (pla q no n) = no → Q (.inr 5) (xbump h)) (kS : (pla q no n) < no → ∀ h2, SbX B0 h2 (wrS (q (pla q no n)).2.2.2 (wrA 119 (nv (q (pla q no n)).2.1) (wrA 113 (nv (q (pla q no n)).1) (0, Lo))) (q (pla q no n)).2.2.1).1 (wrS (q (pla q no n)).2.2.2 (wrA 119 (nv (q (pla q no n)).2.1) (wrA 113 (nv (q (pla q no n)).1) (0, Lo))) (q (pla q no n)).2.2.1).2 → Fw B0 h h2 60 13200 → Q (.inl (some (.int (nI (wrS (q (pla q no n)).2.2.2 (wrA 119 (nv (q (pla q no n)).2.1) (wrA 113 (nv (q (pla q no n)).1) (0, Lo))) (q (pla q no n)).2.2.1).1)))) h2) : xP S (d + 6) 129 0 [(0, .ref e), (1, .int n)] [] h Q := by
  obtain ⟨b1, ⟨b2n, b2o, b2s⟩, b3, b4, b5, b6, b7, b8, b9, b10⟩ := id hB
  refine xs_f 1 r_129_0 rfl ?_
  refine xs_f 2 r_129_1 rfl ?_
  refine xs_call (lv2 := [(0, _), (1, _)]) r_129_2 rfl rfl (by decide) (xcan_0 rfl rfl o0 (by rfl)) rfl (e_140 o0 hB h32 (fun hq => ?_) (fun hq => ?_))
  · have hQ := b10 (pla q no n) (by omega)
    have hs6 := b8 (pla q no n) (by omega)
    have Q0 := hQ
    obtain ⟨v, hv, ev⟩ := hN _ hq
    obtain ⟨w, hw9, ew⟩ := hWt _ hq
    have g4 := ndg_3 hv
    have g5 := ndg_3 hw9
    have z0 : ((0, Lo) : XL).1 = 0 := rfl
    have z1 := wrA_1 (x := 113) (v := v) (s := (0, Lo))
    refine xK_v rfl ?_
    refine xs_f 6 (lv2 := [(2, _), (0, _), (1, _)]) r_129_5 rfl ?_
    refine xs_f 7 r_129_6 rfl ?_
    refine xs_get 10 r_129_7 rfl rfl o0 (by rfl) ?_
    refine xs_f 11 r_129_10 rfl ?_
    refine xs_call (lv2 := [(0, _), (1, _)]) r_129_11 rfl rfl (by decide) (xcan_b rfl hX) rfl (e_296 hX hon (fun h1 hX1 u1 => ?_))
    have w1 := u1
    have o1 := (w1.1 e (by omega) (by omega) (by omega)).trans o0
    have Q1 := hQ.fr (g := h1.1) (fun c z1 z2 => w1.1 c (by omega) (by omega) (by omega))
    have hX1 : SbX B0 h1 ((0, Lo) : XL).1 ((0, Lo) : XL).2 := hX1.z
    refine xK_0 rfl ?_
    refine xs_f 15 r_129_14 rfl ?_
    refine xs_get 18 r_129_15 rfl rfl o1 (by rfl) ?_
    refine xs_f 20 r_129_18 rfl ?_
    refine xs_call (lv2 := [(0, _), (1, _)]) r_129_20 rfl rfl (by decide) (xcan_b rfl hX1) rfl (xP_lv [(0, .ref 807), (1, .int (nI 113))] rfl ⟨rfl, rfl, trivial⟩ (e_293 hX1 (by show 0 < 100; omega) (x := 113) (by omega) (fun h2 hX2 u2 => ?_)))
    have w2 := w1.tr u2
    have o2 := (w2.1 e (by omega) (by omega) (by omega)).trans o0
    have Q2 := hQ.fr (g := h2.1) (fun c z1 z2 => w2.1 c (by omega) (by omega) (by omega))
    refine xK_v rfl ?_
    refine xs_f 24 r_129_23 rfl ?_
    refine xs_get 27 r_129_24 rfl rfl Q2.1 (by rfl) ?_
    refine xs_call (lv2 := [(0, _), (1, _)]) r_129_27 rfl rfl (by decide) (xcan_b rfl hX2) rfl (xP_lv [(0, .ref 807), (1, .int (nI v))] rfl ⟨rfl, (congrArg (fun z => some (Value.int z)) ev), trivial⟩ (e_294 hX2 (by show 0 + 1 + 4 ≤ 100; omega) (x := v) (by omega) (fun h3 hX3 u3 => ?_)))
    have w3 := w2.tr u3
    have o3 := (w3.1 e (by omega) (by omega) (by omega)).trans o0
    have Q3 := hQ.fr (g := h3.1) (fun c z1 z2 => w3.1 c (by omega) (by omega) (by omega))
    refine xK_v rfl ?_
    refine xs_f 32 r_129_30 rfl ?_
    refine xs_call (lv2 := [(0, _), (1, _)]) r_129_32 rfl rfl (by decide) (xcan_b rfl hX3) rfl (xP_lv [(0, .ref 807), (1, .int (nI 119))] rfl ⟨rfl, rfl, trivial⟩ (e_293 hX3 (by show (wrA 113 v (0, Lo)).1 < 100; omega) (x := 119) (by omega) (fun h4 hX4 u4 => ?_)))
    have w4 := w3.tr u4
    have o4 := (w4.1 e (by omega) (by omega) (by omega)).trans o0
    have Q4 := hQ.fr (g := h4.1) (fun c z1 z2 => w4.1 c (by omega) (by omega) (by omega))
    refine xK_v rfl ?_
    refine xs_f 36 r_129_35 rfl ?_
    refine xs_get 39 r_129_36 rfl rfl Q4.1 (by rfl) ?_
    refine xs_call (lv2 := [(0, _), (1, _)]) r_129_39 rfl rfl (by decide) (xcan_b rfl hX4) rfl (xP_lv [(0, .ref 807), (1, .int (nI w))] rfl ⟨rfl, (congrArg (fun z => some (Value.int z)) ew), trivial⟩ (e_294 hX4 (by show (wrA 113 v (0, Lo)).1 + 1 + 4 ≤ 100; omega) (x := w) (by omega) (fun h5 hX5 u5 => ?_)))
    have w5 := w4.tr u5
    have o5 := (w5.1 e (by omega) (by omega) (by omega)).trans o0
    have Q5 := hQ.fr (g := h5.1) (fun c z1 z2 => w5.1 c (by omega) (by omega) (by omega))
    refine xK_v rfl ?_
    refine xs_f 43 r_129_42 rfl ?_
    refine xs_f 44 r_129_43 rfl ?_
    refine xs_f 45 (lv2 := [(3, _), (2, _), (0, _), (1, _)]) r_129_44 rfl ?_
    have es : (wrA 119 (nv (q (pla q no n)).2.1) (wrA 113 (nv (q (pla q no n)).1) (0, Lo))) = wrA 119 w (wrA 113 v (0, Lo)) := by rw [nv_n ev hv, nv_n ew hw9]
    have zz := wrA_1 (x := 119) (v := w) (s := wrA 113 v (0, Lo))
    exact xP_lv [(0, .ref e), (1, .int n), (2, .ref (b + 27 + 7 * s (pla q no n))), (3, .int (nI 0))] rfl ⟨rfl, rfl, rfl, rfl, trivial⟩ (el_129 (s0 := (wrA 119 (nv (q (pla q no n)).2.1) (wrA 113 (nv (q (pla q no n)).1) (0, Lo)))) o0 hB h32 hb8 he hB9 hq (by rw [es]; omega) (hE _ hq) (kS hq) ((q (pla q no n)).2.2.1 + 1) 0 h5 (by omega) (by omega) (by rw [es]; exact hX5) (w5.le (by omega) (by omega)))
  · refine xK_e rfl rfl ?_
    exact kF hq

theorem e_130 {S : XSc} {d : Nat} {h : XH} {Q : XO → XH → Prop} {b w1 w2 w3 w4 e : Nat} {i1 i2 i3 : Int32} (o0 : h.1 e = some (.inr (8, [.ref b, .ref w1, .ref w2, .ref w3, .ref w4, .ref 807, .int i1, .int i2, .int i3]))) {B0 n : Nat} {L : Nat → Int32} (hX : SbX B0 h n L) (hn : n ≤ 100) {p : Int32} (kF : ¬ isPl n p → Q (.inr 2) (xbump h)) (kS : ∀ i, i < n → p = nI i → Q (.inl (some (.int (L i)))) h) : xP S (d + 3) 130 0 [(0, .ref e), (1, .int p)] [] h Q := by
  have hz9 : ∀ i, i < n → vp_nar .char (L i) = L i := fun i hi => by
    obtain ⟨cap, v, Bt, k, hC⟩ := id hX
    obtain ⟨x9, hx9, ex9⟩ := hC.2.2.2.1 i (by have := hC.2.2.2.2.1.1; omega)
    rw [← hC.2.2.1 i hi, ex9]
    exact (chr_ok hx9).2
  refine xs_f 1 r_130_0 rfl ?_
  refine xs_if 15 4 r_130_1 rfl (fun hp0 => ?_) (fun hp0 => ?_)
  · refine xs_thr r_130_15 rfl ?_
    first
      | exact kS i hi hpi
      | exact kF (fun z => absurd hp0 (Int32.not_lt.mpr z.1))
      | exact kF (fun z => hp1 z.2)
  · refine xs_f 5 r_130_4 rfl ?_
    refine xs_f 6 r_130_5 rfl ?_
    refine xs_get 9 r_130_6 rfl rfl (by first | assumption | exact xup_s | exact o0 | (refine (xup_n (by omega)).trans ?_; first | assumption | exact xup_s | exact o0) | (refine (xup_n (by omega)).trans ((xup_n (by omega)).trans ?_); first | assumption | exact xup_s | exact o0) | (refine (xup_n (by omega)).trans ((xup_n (by omega)).trans ((xup_n (by omega)).trans ?_)); first | assumption | exact xup_s | exact o0)) (by rfl) ?_
    refine xs_call (lv2 := [(0, _)]) r_130_9 rfl rfl (by decide) (xcan_b rfl hX) rfl (e_297 hX ?_)
    refine xK_v rfl ?_
    refine xs_if 26 15 r_130_12 rfl (fun hp1 => ?_) (fun hp1 => ?_)
    · have hp : isPl n p := ⟨Int32.not_lt.mp hp0, hp1⟩
      obtain ⟨i, hi, hpi, hcl⟩ := isPl_c hp (by omega)
      refine xs_f 27 r_130_26 rfl ?_
      refine xs_get 30 r_130_27 rfl rfl (by first | assumption | exact xup_s | exact o0 | (refine (xup_n (by omega)).trans ?_; first | assumption | exact xup_s | exact o0) | (refine (xup_n (by omega)).trans ((xup_n (by omega)).trans ?_); first | assumption | exact xup_s | exact o0) | (refine (xup_n (by omega)).trans ((xup_n (by omega)).trans ((xup_n (by omega)).trans ?_)); first | assumption | exact xup_s | exact o0)) (by rfl) ?_
      refine xs_f 31 r_130_30 rfl ?_
      refine xs_call (lv2 := [(0, _), (1, _)]) r_130_31 rfl rfl (by decide) (xcan_b rfl hX) rfl (xP_lv [(0, .ref 807), (1, .int (nI i))] rfl ⟨rfl, (congrArg (fun z => some (Value.int z)) hpi), trivial⟩ (e_295 hX hi ?_))
      refine xK_v rfl ?_
      refine xs_ret r_130_34 (xr_charE rfl (hz9 i hi)) ?_
      first
        | exact kS i hi hpi
        | exact kF (fun z => absurd hp0 (Int32.not_lt.mpr z.1))
        | exact kF (fun z => hp1 z.2)
    · refine xs_thr r_130_15 rfl ?_
      first
        | exact kS i hi hpi
        | exact kF (fun z => absurd hp0 (Int32.not_lt.mpr z.1))
        | exact kF (fun z => hp1 z.2)

