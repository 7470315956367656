/-! the reference writes -/
def Fl6 (f g : Nat → Option XE) (a : Nat) : Prop := ∀ c, (c ≠ a ∧ c ≠ a + 6) → g c = f c
theorem Fl6.rf {f : Nat → Option XE} {a : Nat} : Fl6 f f a := fun _ _ => rfl
theorem Fl6.tr {f g k : Nat → Option XE} {a : Nat} (h : Fl6 f g a) (h2 : Fl6 g k a) : Fl6 f k a := fun c hc => (h2 c hc).trans (h c hc)
abbrev XL : Type := Nat × (Nat → Int32)
def p10 (k : Nat) : Nat := match k with
  | 0 => 1
  | 1 => 10
  | 2 => 100
  | _ => 1000
def psL (s : XL) (x : Int32) : XL := (s.1 + 1, xw s.2 s.1 x)
/-- the last k digits of v -/
def wrD (v : Nat) : Nat → XL → XL
  | 0, s => s
  | k + 1, s => wrD v k (psL s (nI (48 + v / p10 k % 10)))
def ndg (v : Nat) : Nat := if v < 10 then 1 else if v < 100 then 2 else if v < 1000 then 3 else 4
def wrN (v : Nat) (s : XL) : XL := wrD v (ndg v) s
theorem wrD_1 {v : Nat} : ∀ {k : Nat} {s : XL}, (wrD v k s).1 = s.1 + k
  | 0, s => rfl
  | k + 1, s => by
    show (wrD v k _).1 = _
    rw [wrD_1]
    show s.1 + 1 + k = _
    omega
theorem chr_ok {k : Nat} (hk : k < 128) : ((nI k).toUInt32 % 65536).toInt32 = nI k ∧ vp_nar .char (nI k) = nI k := by
  have e : ∀ k : Fin 128, ((nI k.val).toUInt32 % 65536).toInt32 = nI k.val ∧ vp_nar .char (nI k.val) = nI k.val := by decide +kernel
  exact e ⟨k, hk⟩
theorem m_234 {S : XSc} {d : Nat} {h : XH} {Q : XO → XH → Prop} {a : Nat} {ch sv ty ea fa th sp wr : Int32} {on : Nat} {Le : Nat → Int32} (o0 : h.1 a = some (.inr (9, mO a ch sv ty ea fa (nI on) th sp wr))) (l0 : IA h.1 3 (a + 6) 100 Le) (h32 : 32 ≤ a) (hon : on < 100) {x : Nat} (hx : x < 128) (k : ∀ f, f a = some (.inr (9, mO a ch sv ty ea fa (nI (psL (on, Le) (nI x)).1) th sp wr)) → IA f 3 (a + 6) 100 (psL (on, Le) (nI x)).2 → Fl6 h.1 f a → Q (.inl none) (f, h.2)) : xP S d 234 0 [(0, .ref a), (1, .int (nI x))] [] h Q := by
  refine xs_f 1 r_234_0 rfl ?_
  refine xs_get 4 r_234_1 rfl rfl (by first | assumption | exact xup_s | exact o0 | (refine (xup_n (by omega)).trans ?_; first | assumption | exact xup_s | exact o0) | (refine (xup_n (by omega)).trans ((xup_n (by omega)).trans ?_); first | assumption | exact xup_s | exact o0) | (refine (xup_n (by omega)).trans ((xup_n (by omega)).trans ((xup_n (by omega)).trans ?_)); first | assumption | exact xup_s | exact o0)) (by rfl) ?_
  refine xs_f 5 r_234_4 rfl ?_
  refine xs_get 8 r_234_5 rfl rfl (by first | assumption | exact xup_s | exact o0 | (refine (xup_n (by omega)).trans ?_; first | assumption | exact xup_s | exact o0) | (refine (xup_n (by omega)).trans ((xup_n (by omega)).trans ?_); first | assumption | exact xup_s | exact o0) | (refine (xup_n (by omega)).trans ((xup_n (by omega)).trans ((xup_n (by omega)).trans ?_)); first | assumption | exact xup_s | exact o0)) (by rfl) ?_
  refine xs_f 9 r_234_8 rfl ?_
  refine xs_f 10 r_234_9 rfl ?_
  refine xs_astC 11 r_234_10 (fun _ _ => rfl) rfl rfl rfl (j := on) rfl (by first | assumption | exact l0 | (refine IA.fr ?_ (xup_n (by omega)); first | assumption | exact l0) | (refine IA.fr (IA.fr ?_ (xup_n (by omega))) (xup_n (by omega)); first | assumption | exact l0) | (refine IA.fr (IA.fr (IA.fr ?_ (xup_n (by omega))) (xup_n (by omega))) (xup_n (by omega)); first | assumption | exact l0)) (by omega) (by show vp_nar .char ((nI x).toUInt32 % 65536).toInt32 = nI x; rw [(chr_ok hx).1]; exact (chr_ok hx).2) (fun f1 x1 y1 => ?_)
  have o1 := (y1 a (by omega)).trans o0
  refine xs_f 12 r_234_11 rfl ?_
  refine xs_f 13 r_234_12 rfl ?_
  refine xs_get 16 r_234_13 rfl rfl o1 (by rfl) ?_
  refine xs_f 17 r_234_16 rfl ?_
  refine xs_f 18 r_234_17 rfl ?_
  refine xs_putC 21 r_234_18 rfl o1 (by rfl) (by rfl) (fun f2 x2 y2 => ?_)
  refine xs_ret r_234_21 rfl ?_
  exact k f2 (by rw [x2]; show some (Sum.inr (9, mO a ch sv ty ea fa (nI on + 1) th sp wr)) = _; rw [← nI_succ]; rfl) (x1.fr (y2 _ (by omega))) (fun c hc => (y2 c (by omega)).trans (y1 c (by omega)))

theorem ml_235b0 {S : XSc} {d : Nat} {h : XH} {Q : XO → XH → Prop} {a v : Nat} (k : Q (.inl none) h) : xP S d 235 22 [(0, .ref a), (1, .int (nI v)), (2, .int (nI 0))] [] h Q := by
  refine xs_f 23 r_235_22 rfl ?_
  refine xs_f 47 r_235_23 rfl ?_
  refine xs_ret r_235_47 rfl ?_
  exact k

theorem ml_235b1 {S : XSc} {d : Nat} {h : XH} {Q : XO → XH → Prop} {a : Nat} {ch sv ty ea fa th sp wr : Int32} {on : Nat} {Le : Nat → Int32} (o0 : h.1 a = some (.inr (9, mO a ch sv ty ea fa (nI on) th sp wr))) (l0 : IA h.1 3 (a + 6) 100 Le) (h32 : 32 ≤ a) {v : Nat} (hv : v < 10000) (hon : on + 1 ≤ 100) (k : ∀ f, f a = some (.inr (9, mO a ch sv ty ea fa (nI (wrD v 1 (on, Le)).1) th sp wr)) → IA f 3 (a + 6) 100 (wrD v 1 (on, Le)).2 → Fl6 h.1 f a → Q (.inl none) (f, h.2)) : xP S (d + 1) 235 22 [(0, .ref a), (1, .int (nI v)), (2, .int (nI 1))] [] h Q := by
  refine xs_f 23 r_235_22 rfl ?_
  refine xs_f 26 r_235_23 rfl ?_
  refine xs_f 27 r_235_26 rfl ?_
  refine xs_f 29 r_235_27 rfl ?_
  refine xs_f 30 r_235_29 rfl ?_
  refine xs_f 31 r_235_30 rfl ?_
  refine xs_idiv 32 r_235_31 rfl (by decide) ?_
  refine xs_f 34 r_235_32 rfl ?_
  refine xs_irem 35 r_235_34 rfl (by decide) ?_
  refine xs_f 36 r_235_35 rfl ?_
  refine xs_call (lv2 := [(0, _), (1, _)]) r_235_36 rfl rfl (by decide) (xcan_0 rfl rfl (by first | assumption | exact xup_s | exact o0 | (refine (xup_n (by omega)).trans ?_; first | assumption | exact xup_s | exact o0) | (refine (xup_n (by omega)).trans ((xup_n (by omega)).trans ?_); first | assumption | exact xup_s | exact o0) | (refine (xup_n (by omega)).trans ((xup_n (by omega)).trans ((xup_n (by omega)).trans ?_)); first | assumption | exact xup_s | exact o0)) (by rfl)) rfl (xP_lv [(0, .ref a), (1, .int (nI (48 + v / 1 % 10)))] rfl ⟨rfl, (congrArg (fun z => some (Value.int z)) (nI_addE (nI_k 48) (nI_remE (nI_divE (x := nI v) rfl (nI_k 1) (by omega) (by omega) (by omega)) (nI_k 10) (by omega) (by omega) (by omega)))), trivial⟩ (m_234 o0 l0 h32 (by omega) (x := 48 + v / 1 % 10) (by omega) (fun f1 o1 l1 y1 => ?_)))
  refine xK_0 rfl ?_
  refine xs_f 40 r_235_39 rfl ?_
  refine xs_f 42 r_235_40 rfl ?_
  refine xs_idiv 43 r_235_42 rfl (by decide) ?_
  refine xs_f 44 (lv2 := [(2, _), (0, _), (1, _)]) r_235_43 rfl ?_
  refine xs_f 22 r_235_44 rfl ?_
  exact xP_lv [(0, .ref a), (1, .int (nI v)), (2, .int (nI 0))] rfl ⟨rfl, rfl, rfl, trivial⟩ (ml_235b0 (k f1 o1 l1 y1))

theorem ml_235b2 {S : XSc} {d : Nat} {h : XH} {Q : XO → XH → Prop} {a : Nat} {ch sv ty ea fa th sp wr : Int32} {on : Nat} {Le : Nat → Int32} (o0 : h.1 a = some (.inr (9, mO a ch sv ty ea fa (nI on) th sp wr))) (l0 : IA h.1 3 (a + 6) 100 Le) (h32 : 32 ≤ a) {v : Nat} (hv : v < 10000) (hon : on + 2 ≤ 100) (k : ∀ f, f a = some (.inr (9, mO a ch sv ty ea fa (nI (wrD v 2 (on, Le)).1) th sp wr)) → IA f 3 (a + 6) 100 (wrD v 2 (on, Le)).2 → Fl6 h.1 f a → Q (.inl none) (f, h.2)) : xP S (d + 1) 235 22 [(0, .ref a), (1, .int (nI v)), (2, .int (nI 10))] [] h Q := by
  refine xs_f 23 r_235_22 rfl ?_
  refine xs_f 26 r_235_23 rfl ?_
  refine xs_f 27 r_235_26 rfl ?_
  refine xs_f 29 r_235_27 rfl ?_
  refine xs_f 30 r_235_29 rfl ?_
  refine xs_f 31 r_235_30 rfl ?_
  refine xs_idiv 32 r_235_31 rfl (by decide) ?_
  refine xs_f 34 r_235_32 rfl ?_
  refine xs_irem 35 r_235_34 rfl (by decide) ?_
  refine xs_f 36 r_235_35 rfl ?_
  refine xs_call (lv2 := [(0, _), (1, _)]) r_235_36 rfl rfl (by decide) (xcan_0 rfl rfl (by first | assumption | exact xup_s | exact o0 | (refine (xup_n (by omega)).trans ?_; first | assumption | exact xup_s | exact o0) | (refine (xup_n (by omega)).trans ((xup_n (by omega)).trans ?_); first | assumption | exact xup_s | exact o0) | (refine (xup_n (by omega)).trans ((xup_n (by omega)).trans ((xup_n (by omega)).trans ?_)); first | assumption | exact xup_s | exact o0)) (by rfl)) rfl (xP_lv [(0, .ref a), (1, .int (nI (48 + v / 10 % 10)))] rfl ⟨rfl, (congrArg (fun z => some (Value.int z)) (nI_addE (nI_k 48) (nI_remE (nI_divE (x := nI v) rfl (nI_k 10) (by omega) (by omega) (by omega)) (nI_k 10) (by omega) (by omega) (by omega)))), trivial⟩ (m_234 o0 l0 h32 (by omega) (x := 48 + v / 10 % 10) (by omega) (fun f1 o1 l1 y1 => ?_)))
  refine xK_0 rfl ?_
  refine xs_f 40 r_235_39 rfl ?_
  refine xs_f 42 r_235_40 rfl ?_
  refine xs_idiv 43 r_235_42 rfl (by decide) ?_
  refine xs_f 44 (lv2 := [(2, _), (0, _), (1, _)]) r_235_43 rfl ?_
  refine xs_f 22 r_235_44 rfl ?_
  exact xP_lv [(0, .ref a), (1, .int (nI v)), (2, .int (nI 1))] rfl ⟨rfl, rfl, rfl, trivial⟩ (ml_235b1 (h := (f1, h.2)) o1 l1 h32 hv (by show on + 1 + 1 ≤ 100; omega) (fun f2 o2 l2 y2 => k f2 o2 l2 (y1.tr y2)))

theorem ml_235b3 {S : XSc} {d : Nat} {h : XH} {Q : XO → XH → Prop} {a : Nat} {ch sv ty ea fa th sp wr : Int32} {on : Nat} {Le : Nat → Int32} (o0 : h.1 a = some (.inr (9, mO a ch sv ty ea fa (nI on) th sp wr))) (l0 : IA h.1 3 (a + 6) 100 Le) (h32 : 32 ≤ a) {v : Nat} (hv : v < 10000) (hon : on + 3 ≤ 100) (k : ∀ f, f a = some (.inr (9, mO a ch sv ty ea fa (nI (wrD v 3 (on, Le)).1) th sp wr)) → IA f 3 (a + 6) 100 (wrD v 3 (on, Le)).2 → Fl6 h.1 f a → Q (.inl none) (f, h.2)) : xP S (d + 1) 235 22 [(0, .ref a), (1, .int (nI v)), (2, .int (nI 100))] [] h Q := by
  refine xs_f 23 r_235_22 rfl ?_
  refine xs_f 26 r_235_23 rfl ?_
  refine xs_f 27 r_235_26 rfl ?_
  refine xs_f 29 r_235_27 rfl ?_
  refine xs_f 30 r_235_29 rfl ?_
  refine xs_f 31 r_235_30 rfl ?_
  refine xs_idiv 32 r_235_31 rfl (by decide) ?_
  refine xs_f 34 r_235_32 rfl ?_
  refine xs_irem 35 r_235_34 rfl (by decide) ?_
  refine xs_f 36 r_235_35 rfl ?_
  refine xs_call (lv2 := [(0, _), (1, _)]) r_235_36 rfl rfl (by decide) (xcan_0 rfl rfl (by first | assumption | exact xup_s | exact o0 | (refine (xup_n (by omega)).trans ?_; first | assumption | exact xup_s | exact o0) | (refine (xup_n (by omega)).trans ((xup_n (by omega)).trans ?_); first | assumption | exact xup_s | exact o0) | (refine (xup_n (by omega)).trans ((xup_n (by omega)).trans ((xup_n (by omega)).trans ?_)); first | assumption | exact xup_s | exact o0)) (by rfl)) rfl (xP_lv [(0, .ref a), (1, .int (nI (48 + v / 100 % 10)))] rfl ⟨rfl, (congrArg (fun z => some (Value.int z)) (nI_addE (nI_k 48) (nI_remE (nI_divE (x := nI v) rfl (nI_k 100) (by omega) (by omega) (by omega)) (nI_k 10) (by omega) (by omega) (by omega)))), trivial⟩ (m_234 o0 l0 h32 (by omega) (x := 48 + v / 100 % 10) (by omega) (fun f1 o1 l1 y1 => ?_)))
  refine xK_0 rfl ?_
  refine xs_f 40 r_235_39 rfl ?_
  refine xs_f 42 r_235_40 rfl ?_
  refine xs_idiv 43 r_235_42 rfl (by decide) ?_
  refine xs_f 44 (lv2 := [(2, _), (0, _), (1, _)]) r_235_43 rfl ?_
  refine xs_f 22 r_235_44 rfl ?_
  exact xP_lv [(0, .ref a), (1, .int (nI v)), (2, .int (nI 10))] rfl ⟨rfl, rfl, rfl, trivial⟩ (ml_235b2 (h := (f1, h.2)) o1 l1 h32 hv (by show on + 1 + 2 ≤ 100; omega) (fun f2 o2 l2 y2 => k f2 o2 l2 (y1.tr y2)))

theorem ml_235b4 {S : XSc} {d : Nat} {h : XH} {Q : XO → XH → Prop} {a : Nat} {ch sv ty ea fa th sp wr : Int32} {on : Nat} {Le : Nat → Int32} (o0 : h.1 a = some (.inr (9, mO a ch sv ty ea fa (nI on) th sp wr))) (l0 : IA h.1 3 (a + 6) 100 Le) (h32 : 32 ≤ a) {v : Nat} (hv : v < 10000) (hon : on + 4 ≤ 100) (k : ∀ f, f a = some (.inr (9, mO a ch sv ty ea fa (nI (wrD v 4 (on, Le)).1) th sp wr)) → IA f 3 (a + 6) 100 (wrD v 4 (on, Le)).2 → Fl6 h.1 f a → Q (.inl none) (f, h.2)) : xP S (d + 1) 235 22 [(0, .ref a), (1, .int (nI v)), (2, .int (nI 1000))] [] h Q := by
  refine xs_f 23 r_235_22 rfl ?_
  refine xs_f 26 r_235_23 rfl ?_
  refine xs_f 27 r_235_26 rfl ?_
  refine xs_f 29 r_235_27 rfl ?_
  refine xs_f 30 r_235_29 rfl ?_
  refine xs_f 31 r_235_30 rfl ?_
  refine xs_idiv 32 r_235_31 rfl (by decide) ?_
  refine xs_f 34 r_235_32 rfl ?_
  refine xs_irem 35 r_235_34 rfl (by decide) ?_
  refine xs_f 36 r_235_35 rfl ?_
  refine xs_call (lv2 := [(0, _), (1, _)]) r_235_36 rfl rfl (by decide) (xcan_0 rfl rfl (by first | assumption | exact xup_s | exact o0 | (refine (xup_n (by omega)).trans ?_; first | assumption | exact xup_s | exact o0) | (refine (xup_n (by omega)).trans ((xup_n (by omega)).trans ?_); first | assumption | exact xup_s | exact o0) | (refine (xup_n (by omega)).trans ((xup_n (by omega)).trans ((xup_n (by omega)).trans ?_)); first | assumption | exact xup_s | exact o0)) (by rfl)) rfl (xP_lv [(0, .ref a), (1, .int (nI (48 + v / 1000 % 10)))] rfl ⟨rfl, (congrArg (fun z => some (Value.int z)) (nI_addE (nI_k 48) (nI_remE (nI_divE (x := nI v) rfl (nI_k 1000) (by omega) (by omega) (by omega)) (nI_k 10) (by omega) (by omega) (by omega)))), trivial⟩ (m_234 o0 l0 h32 (by omega) (x := 48 + v / 1000 % 10) (by omega) (fun f1 o1 l1 y1 => ?_)))
  refine xK_0 rfl ?_
  refine xs_f 40 r_235_39 rfl ?_
  refine xs_f 42 r_235_40 rfl ?_
  refine xs_idiv 43 r_235_42 rfl (by decide) ?_
  refine xs_f 44 (lv2 := [(2, _), (0, _), (1, _)]) r_235_43 rfl ?_
  refine xs_f 22 r_235_44 rfl ?_
  exact xP_lv [(0, .ref a), (1, .int (nI v)), (2, .int (nI 100))] rfl ⟨rfl, rfl, rfl, trivial⟩ (ml_235b3 (h := (f1, h.2)) o1 l1 h32 hv (by show on + 1 + 3 ≤ 100; omega) (fun f2 o2 l2 y2 => k f2 o2 l2 (y1.tr y2)))

theorem ml_235a0 {S : XSc} {d : Nat} {h : XH} {Q : XO → XH → Prop} {a : Nat} {ch sv ty ea fa th sp wr : Int32} {on : Nat} {Le : Nat → Int32} (o0 : h.1 a = some (.inr (9, mO a ch sv ty ea fa (nI on) th sp wr))) (l0 : IA h.1 3 (a + 6) 100 Le) (h32 : 32 ≤ a) {v : Nat} (hv : v < 10000) (hvk : v < 10) (hon : on + 4 ≤ 100) (k : ∀ f, f a = some (.inr (9, mO a ch sv ty ea fa (nI (wrN v (on, Le)).1) th sp wr)) → IA f 3 (a + 6) 100 (wrN v (on, Le)).2 → Fl6 h.1 f a → Q (.inl none) (f, h.2)) : xP S (d + 1) 235 4 [(0, .ref a), (1, .int (nI v)), (2, .int (nI 1))] [] h Q := by
  refine xs_f 5 r_235_4 rfl ?_
  refine xs_f 6 r_235_5 rfl ?_
  refine xs_f 22 r_235_6 rfl ?_
  have e9 : ndg v = 1 := by
    unfold ndg
    (repeat' split) <;> omega
  rw [show wrN v (on, Le) = wrD v 1 (on, Le) from by unfold wrN; rw [e9]] at k
  exact ml_235b1 o0 l0 h32 hv (by omega) k

theorem ml_235a1 {S : XSc} {d : Nat} {h : XH} {Q : XO → XH → Prop} {a : Nat} {ch sv ty ea fa th sp wr : Int32} {on : Nat} {Le : Nat → Int32} (o0 : h.1 a = some (.inr (9, mO a ch sv ty ea fa (nI on) th sp wr))) (l0 : IA h.1 3 (a + 6) 100 Le) (h32 : 32 ≤ a) {v : Nat} (hv : v < 10000) (hvk : v < 100) (hon : on + 4 ≤ 100) (k : ∀ f, f a = some (.inr (9, mO a ch sv ty ea fa (nI (wrN v (on, Le)).1) th sp wr)) → IA f 3 (a + 6) 100 (wrN v (on, Le)).2 → Fl6 h.1 f a → Q (.inl none) (f, h.2)) : xP S (d + 1) 235 4 [(0, .ref a), (1, .int (nI v)), (2, .int (nI 10))] [] h Q := by
  refine xs_f 5 r_235_4 rfl ?_
  refine xs_f 6 r_235_5 rfl ?_
  refine xs_f 9 r_235_6 rfl ?_
  refine xs_f 10 r_235_9 rfl ?_
  refine xs_f 11 r_235_10 rfl ?_
  refine xs_if 22 14 r_235_11 rfl (fun hc2 => ?_) (fun hc2 => ?_)
  · have hc2 := (nI_leN rfl rfl (by omega) (by omega)).mp hc2
    have e9 : ndg v = 2 := by
      unfold ndg
      (repeat' split) <;> omega
    rw [show wrN v (on, Le) = wrD v 2 (on, Le) from by unfold wrN; rw [e9]] at k
    exact ml_235b2 o0 l0 h32 hv (by omega) k
  · have hc2 := mt (nI_leN rfl rfl (by omega) (by omega)).mpr hc2
    refine xs_f 15 r_235_14 rfl ?_
    refine xs_f 17 r_235_15 rfl ?_
    refine xs_idiv 18 r_235_17 rfl (by decide) ?_
    refine xs_f 19 (lv2 := [(2, _), (0, _), (1, _)]) r_235_18 rfl ?_
    refine xs_f 4 r_235_19 rfl ?_
    exact xP_lv [(0, .ref a), (1, .int (nI v)), (2, .int (nI 1))] rfl ⟨rfl, rfl, rfl, trivial⟩ (ml_235a0 o0 l0 h32 hv (by omega) hon k)

theorem ml_235a2 {S : XSc} {d : Nat} {h : XH} {Q : XO → XH → Prop} {a : Nat} {ch sv ty ea fa th sp wr : Int32} {on : Nat} {Le : Nat → Int32} (o0 : h.1 a = some (.inr (9, mO a ch sv ty ea fa (nI on) th sp wr))) (l0 : IA h.1 3 (a + 6) 100 Le) (h32 : 32 ≤ a) {v : Nat} (hv : v < 10000) (hvk : v < 1000) (hon : on + 4 ≤ 100) (k : ∀ f, f a = some (.inr (9, mO a ch sv ty ea fa (nI (wrN v (on, Le)).1) th sp wr)) → IA f 3 (a + 6) 100 (wrN v (on, Le)).2 → Fl6 h.1 f a → Q (.inl none) (f, h.2)) : xP S (d + 1) 235 4 [(0, .ref a), (1, .int (nI v)), (2, .int (nI 100))] [] h Q := by
  refine xs_f 5 r_235_4 rfl ?_
  refine xs_f 6 r_235_5 rfl ?_
  refine xs_f 9 r_235_6 rfl ?_
  refine xs_f 10 r_235_9 rfl ?_
  refine xs_f 11 r_235_10 rfl ?_
  refine xs_if 22 14 r_235_11 rfl (fun hc2 => ?_) (fun hc2 => ?_)
  · have hc2 := (nI_leN rfl rfl (by omega) (by omega)).mp hc2
    have e9 : ndg v = 3 := by
      unfold ndg
      (repeat' split) <;> omega
    rw [show wrN v (on, Le) = wrD v 3 (on, Le) from by unfold wrN; rw [e9]] at k
    exact ml_235b3 o0 l0 h32 hv (by omega) k
  · have hc2 := mt (nI_leN rfl rfl (by omega) (by omega)).mpr hc2
    refine xs_f 15 r_235_14 rfl ?_
    refine xs_f 17 r_235_15 rfl ?_
    refine xs_idiv 18 r_235_17 rfl (by decide) ?_
    refine xs_f 19 (lv2 := [(2, _), (0, _), (1, _)]) r_235_18 rfl ?_
    refine xs_f 4 r_235_19 rfl ?_
    exact xP_lv [(0, .ref a), (1, .int (nI v)), (2, .int (nI 10))] rfl ⟨rfl, rfl, rfl, trivial⟩ (ml_235a1 o0 l0 h32 hv (by omega) hon k)

theorem ml_235a3 {S : XSc} {d : Nat} {h : XH} {Q : XO → XH → Prop} {a : Nat} {ch sv ty ea fa th sp wr : Int32} {on : Nat} {Le : Nat → Int32} (o0 : h.1 a = some (.inr (9, mO a ch sv ty ea fa (nI on) th sp wr))) (l0 : IA h.1 3 (a + 6) 100 Le) (h32 : 32 ≤ a) {v : Nat} (hv : v < 10000) (hon : on + 4 ≤ 100) (k : ∀ f, f a = some (.inr (9, mO a ch sv ty ea fa (nI (wrN v (on, Le)).1) th sp wr)) → IA f 3 (a + 6) 100 (wrN v (on, Le)).2 → Fl6 h.1 f a → Q (.inl none) (f, h.2)) : xP S (d + 1) 235 4 [(0, .ref a), (1, .int (nI v)), (2, .int (nI 1000))] [] h Q := by
  refine xs_f 5 r_235_4 rfl ?_
  refine xs_f 6 r_235_5 rfl ?_
  refine xs_f 9 r_235_6 rfl ?_
  refine xs_f 10 r_235_9 rfl ?_
  refine xs_f 11 r_235_10 rfl ?_
  refine xs_if 22 14 r_235_11 rfl (fun hc2 => ?_) (fun hc2 => ?_)
  · have hc2 := (nI_leN rfl rfl (by omega) (by omega)).mp hc2
    have e9 : ndg v = 4 := by
      unfold ndg
      (repeat' split) <;> omega
    rw [show wrN v (on, Le) = wrD v 4 (on, Le) from by unfold wrN; rw [e9]] at k
    exact ml_235b4 o0 l0 h32 hv (by omega) k
  · have hc2 := mt (nI_leN rfl rfl (by omega) (by omega)).mpr hc2
    refine xs_f 15 r_235_14 rfl ?_
    refine xs_f 17 r_235_15 rfl ?_
    refine xs_idiv 18 r_235_17 rfl (by decide) ?_
    refine xs_f 19 (lv2 := [(2, _), (0, _), (1, _)]) r_235_18 rfl ?_
    refine xs_f 4 r_235_19 rfl ?_
    exact xP_lv [(0, .ref a), (1, .int (nI v)), (2, .int (nI 100))] rfl ⟨rfl, rfl, rfl, trivial⟩ (ml_235a2 o0 l0 h32 hv (by omega) hon k)

theorem m_235 {S : XSc} {d : Nat} {h : XH} {Q : XO → XH → Prop} {a : Nat} {ch sv ty ea fa th sp wr : Int32} {on : Nat} {Le : Nat → Int32} (o0 : h.1 a = some (.inr (9, mO a ch sv ty ea fa (nI on) th sp wr))) (l0 : IA h.1 3 (a + 6) 100 Le) (h32 : 32 ≤ a) {v : Nat} (hv : v < 10000) (hon : on + 4 ≤ 100) (k : ∀ f, f a = some (.inr (9, mO a ch sv ty ea fa (nI (wrN v (on, Le)).1) th sp wr)) → IA f 3 (a + 6) 100 (wrN v (on, Le)).2 → Fl6 h.1 f a → Q (.inl none) (f, h.2)) : xP S (d + 1) 235 0 [(0, .ref a), (1, .int (nI v))] [] h Q := by
  refine xs_f 3 r_235_0 rfl ?_
  refine xs_f 4 (lv2 := [(2, _), (0, _), (1, _)]) r_235_3 rfl ?_
  exact xP_lv [(0, .ref a), (1, .int (nI v)), (2, .int (nI 1000))] rfl ⟨rfl, rfl, rfl, trivial⟩ (ml_235a3 o0 l0 h32 hv hon k)

theorem m_236 {S : XSc} {d : Nat} {h : XH} {Q : XO → XH → Prop} {a : Nat} {ch sv ty ea fa th sp wr : Int32} {on : Nat} {Le : Nat → Int32} (o0 : h.1 a = some (.inr (9, mO a ch sv ty ea fa (nI on) th sp wr))) (l0 : IA h.1 3 (a + 6) 100 Le) (h32 : 32 ≤ a) (hon : on + 5 ≤ 100) {x v : Nat} (hx : x < 128) (hv : v < 10000) (k : ∀ f, f a = some (.inr (9, mO a ch sv ty ea fa (nI (wrN v (psL (on, Le) (nI x))).1) th sp wr)) → IA f 3 (a + 6) 100 (wrN v (psL (on, Le) (nI x))).2 → Fl6 h.1 f a → Q (.inl none) (f, h.2)) : xP S (d + 2) 236 0 [(0, .ref a), (1, .int (nI x)), (2, .int (nI v))] [] h Q := by
  refine xs_f 1 r_236_0 rfl ?_
  refine xs_f 2 r_236_1 rfl ?_
  refine xs_call (lv2 := [(0, _), (1, _)]) r_236_2 rfl rfl (by decide) (xcan_0 rfl rfl (by first | assumption | exact xup_s | exact o0 | (refine (xup_n (by omega)).trans ?_; first | assumption | exact xup_s | exact o0) | (refine (xup_n (by omega)).trans ((xup_n (by omega)).trans ?_); first | assumption | exact xup_s | exact o0) | (refine (xup_n (by omega)).trans ((xup_n (by omega)).trans ((xup_n (by omega)).trans ?_)); first | assumption | exact xup_s | exact o0)) (by rfl)) rfl (m_234 o0 l0 h32 (by omega) hx (fun f1 o1 l1 y1 => ?_))
  refine xK_0 rfl ?_
  refine xs_f 6 r_236_5 rfl ?_
  refine xs_f 7 r_236_6 rfl ?_
  refine xs_call (lv2 := [(0, _), (1, _)]) r_236_7 rfl rfl (by decide) (xcan_0 rfl rfl o1 (by rfl)) rfl (m_235 (h := (f1, h.2)) o1 l1 h32 hv (by show on + 1 + 4 ≤ 100; omega) (fun f2 o2 l2 y2 => ?_))
  refine xK_0 rfl ?_
  refine xs_ret r_236_10 rfl ?_
  exact k f2 o2 l2 (y1.tr y2)

