/-! shares and means: the class -/
theorem dd_ok (s u : Int32) (h : u ≠ 0) : FP.ddiv (FP.i2d s) (FP.i2d u) &&& 0x7fffffffffffffff ≤ 0x7ff0000000000000 := Jvm.Free.Fl.ddiv_out (Jvm.Free.Fl.i2d_fin s).noNaN (Jvm.Free.Fl.i2d_fin u) (Jvm.Free.Fl.i2d_nz h)
theorem ff_ok (s u : Int32) (h : u ≠ 0) : FP.fdiv (FP.i2f s) (FP.i2f u) &&& 0x7fffffff ≤ 0x7f800000 := Jvm.Free.Fl.fdiv_out (Jvm.Free.Fl.i2f_fin s).noNaN (Jvm.Free.Fl.i2f_fin u) (Jvm.Free.Fl.i2f_nz h)
theorem xDD_q (s u : Int32) (h : u ≠ 0) {r : List Value} : xDD (.double (FP.i2d u) :: .double (FP.i2d s) :: r) = some (.double (FP.ddiv (FP.i2d s) (FP.i2d u)) :: r) := if_pos (dd_ok s u h)
theorem xFD_q (s u : Int32) (h : u ≠ 0) {r : List Value} : xFD (.float (FP.i2f u) :: .float (FP.i2f s) :: r) = some (.float (FP.fdiv (FP.i2f s) (FP.i2f u)) :: r) := if_pos (ff_ok s u h)
theorem xs_ddiv {S : XSc} {d mid pc : Nat} {lv : XLv} {st : List Value} {h : XH} {Q : XO → XH → Prop} {k0 : XK} (pc2 : Nat) (hr : xT.1 mid pc = some (.ddiv, k0)) (hp : pc + 1 = pc2) {s u : Int32} (hu : u ≠ 0) (k : xP S d mid pc2 lv (.double (FP.ddiv (FP.i2d s) (FP.i2d u)) :: st) h Q) : xP S d mid pc lv (.double (FP.i2d u) :: .double (FP.i2d s) :: st) h Q := by
  subst hp
  refine xs_f (pc + 1) hr ?_ k
  show xgoS (pc + 1) lv (xDD (.double (FP.i2d u) :: .double (FP.i2d s) :: st)) = _
  rw [xDD_q _ _ hu]
  rfl
theorem xs_fdiv {S : XSc} {d mid pc : Nat} {lv : XLv} {st : List Value} {h : XH} {Q : XO → XH → Prop} {k0 : XK} (pc2 : Nat) (hr : xT.1 mid pc = some (.fdiv, k0)) (hp : pc + 1 = pc2) {s u : Int32} (hu : u ≠ 0) (k : xP S d mid pc2 lv (.float (FP.fdiv (FP.i2f s) (FP.i2f u)) :: st) h Q) : xP S d mid pc lv (.float (FP.i2f u) :: .float (FP.i2f s) :: st) h Q := by
  subst hp
  refine xs_f (pc + 1) hr ?_ k
  show xgoS (pc + 1) lv (xFD (.float (FP.i2f u) :: .float (FP.i2f s) :: st)) = _
  rw [xFD_q _ _ hu]
  rfl
theorem e_116 {S : XSc} {d : Nat} {h : XH} {Q : XO → XH → Prop} {b np no : Nat} {nn : Int32} {sc : Nat} {ho : Int32} {TS TH tr : Nat → Int32} {pl : Nat → XPl} {q : Nat → XQu} {s : Nat → Nat} {R : Nat → Nat → Nat} {e w1 w2 w3 w4 w5 : Nat} {i1 i2 i3 : Int32} (o0 : h.1 e = some (.inr (8, [.ref b, .ref w1, .ref w2, .ref w3, .ref w4, .ref w5, .int i1, .int i2, .int i3]))) (hB : BdP h.1 b np no nn sc ho TS TH tr pl q s R) (h32 : 32 ≤ b) {p : Int32} (k1 : ¬ isPl np p → Q (.inr 2) (xbump h)) (k2 : isPl np p → szP (pl p.toNatClampNeg) = 0 → Q (.inr 3) (xbump h)) (k0 : isPl np p → szP (pl p.toNatClampNeg) ≠ 0 → Q (.inl (some (.double (FP.ddiv (FP.i2d (pl p.toNatClampNeg).2.1) (FP.i2d (szP (pl p.toNatClampNeg))))))) h) : xP S (d + 2) 116 0 [(0, .ref e), (1, .int p)] [] h Q := by
  obtain ⟨b1, ⟨b2n, b2o, b2s⟩, b3, b4, b5, b6, b7, b8, b9, b10⟩ := id hB
  refine xs_f 1 r_116_0 rfl ?_
  refine xs_f 2 r_116_1 rfl ?_
  refine xs_call (lv2 := [(0, _), (1, _)]) r_116_2 rfl rfl (by decide) (xcan_0 rfl rfl (by first | assumption | exact xup_s | exact hpO | exact hpP.1 | exact o0 | exact (b7 _ (by omega)).1 | exact (b10 _ (by omega)).1 | (refine (xup_n (by omega)).trans ?_; first | assumption | exact xup_s | exact hpO | exact hpP.1 | exact o0 | exact (b7 _ (by omega)).1 | exact (b10 _ (by omega)).1) | (refine (xup_n (by omega)).trans ((xup_n (by omega)).trans ?_); first | assumption | exact xup_s | exact hpO | exact hpP.1 | exact o0 | exact (b7 _ (by omega)).1 | exact (b10 _ (by omega)).1) | (refine (xup_n (by omega)).trans ((xup_n (by omega)).trans ((xup_n (by omega)).trans ?_)); first | assumption | exact xup_s | exact hpO | exact hpP.1 | exact o0 | exact (b7 _ (by omega)).1 | exact (b10 _ (by omega)).1)) (by rfl)) rfl (e_139 o0 hB h32 (fun i hi hpi => ?_) (fun hp => ?_))
  · have hcl : p.toNatClampNeg = i := by rw [hpi]; exact nI_clamp (by omega)
    have hp : isPl np p := by rw [hpi]; exact isPl_j hi b2n
    have hpP := (b7 i (by omega)).2
    have hpO := (b7 i (by omega)).1
    refine xK_v rfl ?_
    refine xs_f 6 (lv2 := [(2, _), (0, _), (1, _)]) r_116_5 rfl ?_
    refine xs_f 7 r_116_6 rfl ?_
    refine xs_get 10 r_116_7 rfl rfl (by first | assumption | exact xup_s | exact hpO | exact hpP.1 | exact o0 | exact (b7 _ (by omega)).1 | exact (b10 _ (by omega)).1 | (refine (xup_n (by omega)).trans ?_; first | assumption | exact xup_s | exact hpO | exact hpP.1 | exact o0 | exact (b7 _ (by omega)).1 | exact (b10 _ (by omega)).1) | (refine (xup_n (by omega)).trans ((xup_n (by omega)).trans ?_); first | assumption | exact xup_s | exact hpO | exact hpP.1 | exact o0 | exact (b7 _ (by omega)).1 | exact (b10 _ (by omega)).1) | (refine (xup_n (by omega)).trans ((xup_n (by omega)).trans ((xup_n (by omega)).trans ?_)); first | assumption | exact xup_s | exact hpO | exact hpP.1 | exact o0 | exact (b7 _ (by omega)).1 | exact (b10 _ (by omega)).1)) (by rfl) ?_
    refine xs_call (lv2 := [(0, _)]) r_116_10 rfl rfl (by decide) (xcan_0 rfl rfl (by first | assumption | exact xup_s | exact hpO | exact hpP.1 | exact o0 | exact (b7 _ (by omega)).1 | exact (b10 _ (by omega)).1 | (refine (xup_n (by omega)).trans ?_; first | assumption | exact xup_s | exact hpO | exact hpP.1 | exact o0 | exact (b7 _ (by omega)).1 | exact (b10 _ (by omega)).1) | (refine (xup_n (by omega)).trans ((xup_n (by omega)).trans ?_); first | assumption | exact xup_s | exact hpO | exact hpP.1 | exact o0 | exact (b7 _ (by omega)).1 | exact (b10 _ (by omega)).1) | (refine (xup_n (by omega)).trans ((xup_n (by omega)).trans ((xup_n (by omega)).trans ?_)); first | assumption | exact xup_s | exact hpO | exact hpP.1 | exact o0 | exact (b7 _ (by omega)).1 | exact (b10 _ (by omega)).1)) (by rfl)) rfl (c_6 hpP (by omega) ?_)
    refine xK_v rfl ?_
    refine xs_f 14 (lv2 := [(3, _), (2, _), (0, _), (1, _)]) r_116_13 rfl ?_
    refine xs_f 15 r_116_14 rfl ?_
    refine xs_if 18 29 r_116_15 rfl (fun hz => ?_) (fun hz => ?_)
    · refine xs_thr r_116_18 rfl ?_
      exact k2 hp (by rw [hcl]; exact hz)
    · refine xs_f 30 r_116_29 rfl ?_
      refine xs_get 33 r_116_30 rfl rfl (by first | assumption | exact xup_s | exact hpO | exact hpP.1 | exact o0 | exact (b7 _ (by omega)).1 | exact (b10 _ (by omega)).1 | (refine (xup_n (by omega)).trans ?_; first | assumption | exact xup_s | exact hpO | exact hpP.1 | exact o0 | exact (b7 _ (by omega)).1 | exact (b10 _ (by omega)).1) | (refine (xup_n (by omega)).trans ((xup_n (by omega)).trans ?_); first | assumption | exact xup_s | exact hpO | exact hpP.1 | exact o0 | exact (b7 _ (by omega)).1 | exact (b10 _ (by omega)).1) | (refine (xup_n (by omega)).trans ((xup_n (by omega)).trans ((xup_n (by omega)).trans ?_)); first | assumption | exact xup_s | exact hpO | exact hpP.1 | exact o0 | exact (b7 _ (by omega)).1 | exact (b10 _ (by omega)).1)) (by rfl) ?_
      refine xs_f 34 r_116_33 rfl ?_
      refine xs_f 35 r_116_34 rfl ?_
      refine xs_f 36 r_116_35 rfl ?_
      refine xs_ddiv 37 r_116_36 rfl hz ?_
      refine xs_ret r_116_37 rfl ?_
      rw [hcl] at k0
      exact k0 hp hz
  · refine xK_e rfl rfl ?_
    exact k1 hp

theorem e_123 {S : XSc} {d : Nat} {h : XH} {Q : XO → XH → Prop} {b np no : Nat} {nn : Int32} {sc : Nat} {ho : Int32} {TS TH tr : Nat → Int32} {pl : Nat → XPl} {q : Nat → XQu} {s : Nat → Nat} {R : Nat → Nat → Nat} {e w1 w2 w3 w4 w5 : Nat} {i1 i2 i3 : Int32} (o0 : h.1 e = some (.inr (8, [.ref b, .ref w1, .ref w2, .ref w3, .ref w4, .ref w5, .int i1, .int i2, .int i3]))) (hB : BdP h.1 b np no nn sc ho TS TH tr pl q s R) (h32 : 32 ≤ b) {c : Int32} (k1 : ¬ xconf c → Q (.inr 1) (xbump h)) (k2 : xconf c → TS c.toNatClampNeg = 0 → Q (.inr 3) (xbump h)) (k0 : xconf c → TS c.toNatClampNeg ≠ 0 → Q (.inl (some (.float (FP.fdiv (FP.i2f (TH c.toNatClampNeg)) (FP.i2f (TS c.toNatClampNeg)))))) h) : xP S (d + 2) 123 0 [(0, .ref e), (1, .int c)] [] h Q := by
  obtain ⟨b1, ⟨b2n, b2o, b2s⟩, b3, b4, b5, b6, b7, b8, b9, b10⟩ := id hB
  refine xs_f 1 r_123_0 rfl ?_
  refine xs_call (lv2 := [(0, _)]) r_123_1 rfl rfl (by decide) (xcan_1 rfl) rfl ?_
  refine xs_f 1 r_138_0 rfl ?_
  refine xs_call (lv2 := [(0, _)]) r_138_1 rfl rfl (by decide) (xcan_1 rfl) rfl (c_137 (fun hb => ?_) (fun hb => ?_))
  · obtain ⟨j, h1, h9, hcj⟩ := xconf_nI hb
    have hcl : c.toNatClampNeg = j := by rw [hcj]; exact nI_clamp (by omega)
    rw [hcl] at k2 k0
    subst hcj
    refine xK_v rfl ?_
    refine xs_f 18 r_138_4 rfl ?_
    refine xs_ret r_138_18 rfl ?_
    refine xK_0 rfl ?_
    refine xs_f 5 r_123_4 rfl ?_
    refine xs_get 8 r_123_5 rfl rfl (by first | assumption | exact xup_s | exact b5.1 | exact o0 | exact (b7 _ (by omega)).1 | exact (b10 _ (by omega)).1 | (refine (xup_n (by omega)).trans ?_; first | assumption | exact xup_s | exact b5.1 | exact o0 | exact (b7 _ (by omega)).1 | exact (b10 _ (by omega)).1) | (refine (xup_n (by omega)).trans ((xup_n (by omega)).trans ?_); first | assumption | exact xup_s | exact b5.1 | exact o0 | exact (b7 _ (by omega)).1 | exact (b10 _ (by omega)).1) | (refine (xup_n (by omega)).trans ((xup_n (by omega)).trans ((xup_n (by omega)).trans ?_)); first | assumption | exact xup_s | exact b5.1 | exact o0 | exact (b7 _ (by omega)).1 | exact (b10 _ (by omega)).1)) (by rfl) ?_
    refine xs_get 11 r_123_8 rfl rfl (by first | assumption | exact xup_s | exact b5.1 | exact o0 | exact (b7 _ (by omega)).1 | exact (b10 _ (by omega)).1 | (refine (xup_n (by omega)).trans ?_; first | assumption | exact xup_s | exact b5.1 | exact o0 | exact (b7 _ (by omega)).1 | exact (b10 _ (by omega)).1) | (refine (xup_n (by omega)).trans ((xup_n (by omega)).trans ?_); first | assumption | exact xup_s | exact b5.1 | exact o0 | exact (b7 _ (by omega)).1 | exact (b10 _ (by omega)).1) | (refine (xup_n (by omega)).trans ((xup_n (by omega)).trans ((xup_n (by omega)).trans ?_)); first | assumption | exact xup_s | exact b5.1 | exact o0 | exact (b7 _ (by omega)).1 | exact (b10 _ (by omega)).1)) (by rfl) ?_
    refine xs_f 12 r_123_11 rfl ?_
    refine xs_call (lv2 := [(0, _), (1, _)]) r_123_12 rfl rfl (by decide) (xcan_0 rfl rfl (by first | assumption | exact xup_s | exact b5.1 | exact o0 | exact (b7 _ (by omega)).1 | exact (b10 _ (by omega)).1 | (refine (xup_n (by omega)).trans ?_; first | assumption | exact xup_s | exact b5.1 | exact o0 | exact (b7 _ (by omega)).1 | exact (b10 _ (by omega)).1) | (refine (xup_n (by omega)).trans ((xup_n (by omega)).trans ?_); first | assumption | exact xup_s | exact b5.1 | exact o0 | exact (b7 _ (by omega)).1 | exact (b10 _ (by omega)).1) | (refine (xup_n (by omega)).trans ((xup_n (by omega)).trans ((xup_n (by omega)).trans ?_)); first | assumption | exact xup_s | exact b5.1 | exact o0 | exact (b7 _ (by omega)).1 | exact (b10 _ (by omega)).1)) (by rfl)) rfl (c_4 b5 (by omega) h1 h9 ?_)
    refine xK_v rfl ?_
    refine xs_f 16 (lv2 := [(2, _), (0, _), (1, _)]) r_123_15 rfl ?_
    refine xs_f 17 r_123_16 rfl ?_
    refine xs_if 20 31 r_123_17 rfl (fun hz => ?_) (fun hz => ?_)
    · refine xs_thr r_123_20 rfl ?_
      exact k2 hb hz
    · refine xs_f 32 r_123_31 rfl ?_
      refine xs_get 35 r_123_32 rfl rfl (by first | assumption | exact xup_s | exact b5.1 | exact o0 | exact (b7 _ (by omega)).1 | exact (b10 _ (by omega)).1 | (refine (xup_n (by omega)).trans ?_; first | assumption | exact xup_s | exact b5.1 | exact o0 | exact (b7 _ (by omega)).1 | exact (b10 _ (by omega)).1) | (refine (xup_n (by omega)).trans ((xup_n (by omega)).trans ?_); first | assumption | exact xup_s | exact b5.1 | exact o0 | exact (b7 _ (by omega)).1 | exact (b10 _ (by omega)).1) | (refine (xup_n (by omega)).trans ((xup_n (by omega)).trans ((xup_n (by omega)).trans ?_)); first | assumption | exact xup_s | exact b5.1 | exact o0 | exact (b7 _ (by omega)).1 | exact (b10 _ (by omega)).1)) (by rfl) ?_
      refine xs_get 38 r_123_35 rfl rfl (by first | assumption | exact xup_s | exact b5.1 | exact o0 | exact (b7 _ (by omega)).1 | exact (b10 _ (by omega)).1 | (refine (xup_n (by omega)).trans ?_; first | assumption | exact xup_s | exact b5.1 | exact o0 | exact (b7 _ (by omega)).1 | exact (b10 _ (by omega)).1) | (refine (xup_n (by omega)).trans ((xup_n (by omega)).trans ?_); first | assumption | exact xup_s | exact b5.1 | exact o0 | exact (b7 _ (by omega)).1 | exact (b10 _ (by omega)).1) | (refine (xup_n (by omega)).trans ((xup_n (by omega)).trans ((xup_n (by omega)).trans ?_)); first | assumption | exact xup_s | exact b5.1 | exact o0 | exact (b7 _ (by omega)).1 | exact (b10 _ (by omega)).1)) (by rfl) ?_
      refine xs_f 39 r_123_38 rfl ?_
      refine xs_call (lv2 := [(0, _), (1, _)]) r_123_39 rfl rfl (by decide) (xcan_0 rfl rfl (by first | assumption | exact xup_s | exact b5.1 | exact o0 | exact (b7 _ (by omega)).1 | exact (b10 _ (by omega)).1 | (refine (xup_n (by omega)).trans ?_; first | assumption | exact xup_s | exact b5.1 | exact o0 | exact (b7 _ (by omega)).1 | exact (b10 _ (by omega)).1) | (refine (xup_n (by omega)).trans ((xup_n (by omega)).trans ?_); first | assumption | exact xup_s | exact b5.1 | exact o0 | exact (b7 _ (by omega)).1 | exact (b10 _ (by omega)).1) | (refine (xup_n (by omega)).trans ((xup_n (by omega)).trans ((xup_n (by omega)).trans ?_)); first | assumption | exact xup_s | exact b5.1 | exact o0 | exact (b7 _ (by omega)).1 | exact (b10 _ (by omega)).1)) (by rfl)) rfl (c_5 b5 (by omega) h1 h9 ?_)
      refine xK_v rfl ?_
      refine xs_f 43 r_123_42 rfl ?_
      refine xs_f 44 r_123_43 rfl ?_
      refine xs_f 45 r_123_44 rfl ?_
      refine xs_fdiv 46 r_123_45 rfl hz ?_
      refine xs_ret r_123_46 rfl ?_
      exact k0 hb hz
  · refine xK_v rfl ?_
    refine xs_f 7 r_138_4 rfl ?_
    refine xs_thr r_138_7 rfl ?_
    refine xK_e rfl rfl ?_
    exact k1 hb

