/-! the class's text: small steps -/
def TxP (f : Nat → Option XE) (t n p c : Nat) (Bu nu : Nat → Int32) : Prop := f t = some (.inr (2, [.ref (t + 1), .ref (t + 2), .int (nI n), .int (nI p), .int (nI c)])) ∧ IA f 3 (t + 1) 60 Bu ∧ IA f 0 (t + 2) 6 nu ∧ n ≤ 60 ∧ p ≤ 60 ∧ c ≤ 6
theorem TxP.fr {f g : Nat → Option XE} {t n p c : Nat} {Bu nu : Nat → Int32} (h : TxP f t n p c Bu nu) (e : ∀ x, t ≤ x → x < t + 3 → g x = f x) : TxP g t n p c Bu nu := by
  obtain ⟨h1, h2, h3, h4⟩ := h
  exact ⟨(e _ (by omega) (by omega)).trans h1, h2.fr (e _ (by omega) (by omega)), h3.fr (e _ (by omega) (by omega)), h4⟩
abbrev dgt (c : Int32) : Prop := 48 ≤ c ∧ c ≤ 57
/-- the number that j digits from p say -/
def dv (Bu : Nat → Int32) (p : Nat) : Nat → Int32
  | 0 => 0
  | j + 1 => dv Bu p j * 10 + (Bu (p + j) - 48)
/-- j digits stand at p, and no more of at most mx -/
def dgs (Bu : Nat → Int32) (n p mx j : Nat) : Prop := j ≤ mx ∧ p + j ≤ n ∧ (∀ x, x < j → dgt (Bu (p + x))) ∧ (j = mx ∨ ¬ (p + j < n ∧ dgt (Bu (p + j))))
theorem e_36 {S : XSc} {d : Nat} {h : XH} {Q : XO → XH → Prop} {t n p c : Nat} {Bu nu : Nat → Int32} (hT : TxP h.1 t n p c Bu nu) (h32 : 32 ≤ t) (k1 : n = 60 → Q (.inl (some (.int 1))) h) (k0 : n < 60 → Q (.inl (some (.int 0))) h) : xP S d 36 0 [(0, .ref t)] [] h Q := by
  obtain ⟨t1, t2, t3, t4, t5, t6⟩ := id hT
  refine xs_f 1 r_36_0 rfl ?_
  refine xs_get 4 r_36_1 rfl rfl (by first | assumption | exact xup_s | exact t1 | (refine (xup_n (by omega)).trans ?_; first | assumption | exact xup_s | exact t1) | (refine (xup_n (by omega)).trans ((xup_n (by omega)).trans ?_); first | assumption | exact xup_s | exact t1) | (refine (xup_n (by omega)).trans ((xup_n (by omega)).trans ((xup_n (by omega)).trans ?_)); first | assumption | exact xup_s | exact t1)) (by rfl) ?_
  refine xs_f 6 r_36_4 rfl ?_
  refine xs_if 13 9 r_36_6 rfl (fun hc1 => ?_) (fun hc1 => ?_)
  · have hc1 := (nI_ltN rfl (nI_k 60) (by omega) (by omega)).mp hc1
    refine xs_f 14 r_36_13 rfl ?_
    refine xs_ret r_36_14 rfl ?_
    first | exact k1 (by omega) | exact k0 (by omega)
  · have hc1 := mt (nI_ltN rfl (nI_k 60) (by omega) (by omega)).mpr hc1
    refine xs_f 10 r_36_9 rfl ?_
    refine xs_f 14 r_36_10 rfl ?_
    refine xs_ret r_36_14 rfl ?_
    first | exact k1 (by omega) | exact k0 (by omega)

theorem e_37 {S : XSc} {d : Nat} {h : XH} {Q : XO → XH → Prop} {t n p c : Nat} {Bu nu : Nat → Int32} (hT : TxP h.1 t n p c Bu nu) (h32 : 32 ≤ t) {x : Int32} (hx : vp_nar .char x = x) (hn : n < 60) (k : ∀ f, TxP f t (n + 1) p c (xw Bu n x) nu → Fr h.1 f t (t + 3) → Q (.inl (some (.int (nI (n + 1))))) (f, h.2)) : xP S d 37 0 [(0, .ref t), (1, .int x)] [] h Q := by
  obtain ⟨t1, t2, t3, t4, t5, t6⟩ := id hT
  refine xs_f 1 r_37_0 rfl ?_
  refine xs_get 4 r_37_1 rfl rfl (by first | assumption | exact xup_s | exact t1 | (refine (xup_n (by omega)).trans ?_; first | assumption | exact xup_s | exact t1) | (refine (xup_n (by omega)).trans ((xup_n (by omega)).trans ?_); first | assumption | exact xup_s | exact t1) | (refine (xup_n (by omega)).trans ((xup_n (by omega)).trans ((xup_n (by omega)).trans ?_)); first | assumption | exact xup_s | exact t1)) (by rfl) ?_
  refine xs_f 5 r_37_4 rfl ?_
  refine xs_get 8 r_37_5 rfl rfl (by first | assumption | exact xup_s | exact t1 | (refine (xup_n (by omega)).trans ?_; first | assumption | exact xup_s | exact t1) | (refine (xup_n (by omega)).trans ((xup_n (by omega)).trans ?_); first | assumption | exact xup_s | exact t1) | (refine (xup_n (by omega)).trans ((xup_n (by omega)).trans ((xup_n (by omega)).trans ?_)); first | assumption | exact xup_s | exact t1)) (by rfl) ?_
  refine xs_f 9 r_37_8 rfl ?_
  refine xs_astC 10 r_37_9 (fun _ _ => rfl) rfl rfl rfl (j := n) rfl (by first | assumption | exact t2 | exact t3 | (refine IA.fr ?_ (xup_n (by omega)); first | assumption | exact t2 | exact t3) | (refine IA.fr (IA.fr ?_ (xup_n (by omega))) (xup_n (by omega)); first | assumption | exact t2 | exact t3) | (refine IA.fr (IA.fr (IA.fr ?_ (xup_n (by omega))) (xup_n (by omega))) (xup_n (by omega)); first | assumption | exact t2 | exact t3)) (by omega) hx (fun f1 x1 y1 => ?_)
  have o1 := (y1 t (by omega)).trans t1
  refine xs_f 11 r_37_10 rfl ?_
  refine xs_f 12 r_37_11 rfl ?_
  refine xs_get 15 r_37_12 rfl rfl o1 (by rfl) ?_
  refine xs_f 16 r_37_15 rfl ?_
  refine xs_f 17 r_37_16 rfl ?_
  refine xs_putC 20 r_37_17 rfl o1 (by rfl) (by rfl) (fun f2 x2 y2 => ?_)
  refine xs_f 21 r_37_20 rfl ?_
  refine xs_get 24 r_37_21 rfl rfl x2 (show some (Value.int (nI n + 1)) = some (Value.int (nI (n + 1))) from by rw [nI_succ]) ?_
  refine xs_ret r_37_24 rfl ?_
  exact k f2 ⟨by rw [x2, nI_succ]; rfl, x1.fr (y2 _ (by omega)), (t3.fr (y1 _ (by omega))).fr (y2 _ (by omega)), by omega, t5, t6⟩ ((y1.wd (by omega) (by omega)).tr (y2.wd (by omega) (by omega)))

theorem e_38 {S : XSc} {d : Nat} {h : XH} {Q : XO → XH → Prop} {t n p c : Nat} {Bu nu : Nat → Int32} (hT : TxP h.1 t n p c Bu nu) (h32 : 32 ≤ t) (k : ∀ f, TxP f t 0 p c Bu nu → Fr h.1 f t (t + 1) → Q (.inl none) (f, h.2)) : xP S d 38 0 [(0, .ref t)] [] h Q := by
  obtain ⟨t1, t2, t3, t4, t5, t6⟩ := id hT
  refine xs_f 1 r_38_0 rfl ?_
  refine xs_f 2 r_38_1 rfl ?_
  refine xs_putC 5 r_38_2 rfl (by first | assumption | exact xup_s | exact t1 | (refine (xup_n (by omega)).trans ?_; first | assumption | exact xup_s | exact t1) | (refine (xup_n (by omega)).trans ((xup_n (by omega)).trans ?_); first | assumption | exact xup_s | exact t1) | (refine (xup_n (by omega)).trans ((xup_n (by omega)).trans ((xup_n (by omega)).trans ?_)); first | assumption | exact xup_s | exact t1)) (by rfl) (by rfl) (fun f1 x1 y1 => ?_)
  refine xs_ret r_38_5 rfl ?_
  exact k f1 ⟨x1, t2.fr (y1 _ (by omega)), t3.fr (y1 _ (by omega)), by omega, t5, t6⟩ y1

theorem e_39 {S : XSc} {d : Nat} {h : XH} {Q : XO → XH → Prop} {t n p c : Nat} {Bu nu : Nat → Int32} (hT : TxP h.1 t n p c Bu nu) (h32 : 32 ≤ t) (k : ∀ f, TxP f t n 0 c Bu nu → Fr h.1 f t (t + 1) → Q (.inl none) (f, h.2)) : xP S d 39 0 [(0, .ref t)] [] h Q := by
  obtain ⟨t1, t2, t3, t4, t5, t6⟩ := id hT
  refine xs_f 1 r_39_0 rfl ?_
  refine xs_f 2 r_39_1 rfl ?_
  refine xs_putC 5 r_39_2 rfl (by first | assumption | exact xup_s | exact t1 | (refine (xup_n (by omega)).trans ?_; first | assumption | exact xup_s | exact t1) | (refine (xup_n (by omega)).trans ((xup_n (by omega)).trans ?_); first | assumption | exact xup_s | exact t1) | (refine (xup_n (by omega)).trans ((xup_n (by omega)).trans ((xup_n (by omega)).trans ?_)); first | assumption | exact xup_s | exact t1)) (by rfl) (by rfl) (fun f1 x1 y1 => ?_)
  refine xs_ret r_39_5 rfl ?_
  exact k f1 ⟨x1, t2.fr (y1 _ (by omega)), t3.fr (y1 _ (by omega)), t4, by omega, t6⟩ y1

theorem e_40 {S : XSc} {d : Nat} {h : XH} {Q : XO → XH → Prop} {t n p c : Nat} {Bu nu : Nat → Int32} (hT : TxP h.1 t n p c Bu nu) (h32 : 32 ≤ t) (k : Q (.inl (some (.int (nI p)))) h) : xP S d 40 0 [(0, .ref t)] [] h Q := by
  obtain ⟨t1, t2, t3, t4, t5, t6⟩ := id hT
  refine xs_f 1 r_40_0 rfl ?_
  refine xs_get 4 r_40_1 rfl rfl (by first | assumption | exact xup_s | exact t1 | (refine (xup_n (by omega)).trans ?_; first | assumption | exact xup_s | exact t1) | (refine (xup_n (by omega)).trans ((xup_n (by omega)).trans ?_); first | assumption | exact xup_s | exact t1) | (refine (xup_n (by omega)).trans ((xup_n (by omega)).trans ((xup_n (by omega)).trans ?_)); first | assumption | exact xup_s | exact t1)) (by rfl) ?_
  refine xs_ret r_40_4 rfl ?_
  exact k

theorem e_41 {S : XSc} {d : Nat} {h : XH} {Q : XO → XH → Prop} {t n p c : Nat} {Bu nu : Nat → Int32} (hT : TxP h.1 t n p c Bu nu) (h32 : 32 ≤ t) {i : Nat} (hi : i < 6) (k : Q (.inl (some (.int (if i < c then nu i else 0)))) h) : xP S d 41 0 [(0, .ref t), (1, .int (nI i))] [] h Q := by
  obtain ⟨t1, t2, t3, t4, t5, t6⟩ := id hT
  refine xs_f 1 r_41_0 rfl ?_
  refine xs_if 21 4 r_41_1 rfl (fun hc1 => ?_) (fun hc1 => ?_)
  · have hc1 := (nI_ltN rfl (nI_k 0) (by omega) (by omega)).mp hc1
    refine xs_f 22 r_41_21 rfl ?_
    refine xs_ret r_41_22 rfl ?_
    first
      | (rw [if_pos (by omega)] at k; exact k)
      | (rw [if_neg (by omega)] at k; exact k)
      | omega
  · have hc1 := mt (nI_ltN rfl (nI_k 0) (by omega) (by omega)).mpr hc1
    refine xs_f 5 r_41_4 rfl ?_
    refine xs_f 6 r_41_5 rfl ?_
    refine xs_get 9 r_41_6 rfl rfl (by first | assumption | exact xup_s | exact t1 | (refine (xup_n (by omega)).trans ?_; first | assumption | exact xup_s | exact t1) | (refine (xup_n (by omega)).trans ((xup_n (by omega)).trans ?_); first | assumption | exact xup_s | exact t1) | (refine (xup_n (by omega)).trans ((xup_n (by omega)).trans ((xup_n (by omega)).trans ?_)); first | assumption | exact xup_s | exact t1)) (by rfl) ?_
    refine xs_if 21 12 r_41_9 rfl (fun hc2 => ?_) (fun hc2 => ?_)
    · have hc2 := (nI_leN rfl rfl (by omega) (by omega)).mp hc2
      refine xs_f 22 r_41_21 rfl ?_
      refine xs_ret r_41_22 rfl ?_
      first
        | (rw [if_pos (by omega)] at k; exact k)
        | (rw [if_neg (by omega)] at k; exact k)
        | omega
    · have hc2 := mt (nI_leN rfl rfl (by omega) (by omega)).mpr hc2
      refine xs_f 13 r_41_12 rfl ?_
      refine xs_get 16 r_41_13 rfl rfl (by first | assumption | exact xup_s | exact t1 | (refine (xup_n (by omega)).trans ?_; first | assumption | exact xup_s | exact t1) | (refine (xup_n (by omega)).trans ((xup_n (by omega)).trans ?_); first | assumption | exact xup_s | exact t1) | (refine (xup_n (by omega)).trans ((xup_n (by omega)).trans ((xup_n (by omega)).trans ?_)); first | assumption | exact xup_s | exact t1)) (by rfl) ?_
      refine xs_f 17 r_41_16 rfl ?_
      refine xs_aldI 18 r_41_17 (fun _ _ => rfl) rfl rfl rfl (j := i) rfl (by first | assumption | exact t2 | exact t3 | (refine IA.fr ?_ (xup_n (by omega)); first | assumption | exact t2 | exact t3) | (refine IA.fr (IA.fr ?_ (xup_n (by omega))) (xup_n (by omega)); first | assumption | exact t2 | exact t3) | (refine IA.fr (IA.fr (IA.fr ?_ (xup_n (by omega))) (xup_n (by omega))) (xup_n (by omega)); first | assumption | exact t2 | exact t3)) (by omega) ?_
      refine xs_f 22 r_41_18 rfl ?_
      refine xs_ret r_41_22 rfl ?_
      first
        | (rw [if_pos (by omega)] at k; exact k)
        | (rw [if_neg (by omega)] at k; exact k)
        | omega

theorem e_47 {S : XSc} {d : Nat} {h : XH} {Q : XO → XH → Prop} {x : Int32} (k1 : dgt x → Q (.inl (some (.int 1))) h) (k0 : ¬ dgt x → Q (.inl (some (.int 0))) h) : xP S d 47 0 [(0, .int x)] [] h Q := by
  refine xs_f 1 r_47_0 rfl ?_
  refine xs_f 3 r_47_1 rfl ?_
  refine xs_if 16 6 r_47_3 rfl (fun ha => ?_) (fun ha => ?_)
  · refine xs_f 17 r_47_16 rfl ?_
    refine xs_ret r_47_17 rfl ?_
    first
      | exact k1 ⟨Int32.not_lt.mp ha, Int32.not_lt.mp hb⟩
      | exact k0 (fun z => absurd ha (Int32.not_lt.mpr z.1))
      | exact k0 (fun z => absurd hb (Int32.not_lt.mpr z.2))
  · refine xs_f 7 r_47_6 rfl ?_
    refine xs_f 9 r_47_7 rfl ?_
    refine xs_if 16 12 r_47_9 rfl (fun hb => ?_) (fun hb => ?_)
    · refine xs_f 17 r_47_16 rfl ?_
      refine xs_ret r_47_17 rfl ?_
      first
        | exact k1 ⟨Int32.not_lt.mp ha, Int32.not_lt.mp hb⟩
        | exact k0 (fun z => absurd ha (Int32.not_lt.mpr z.1))
        | exact k0 (fun z => absurd hb (Int32.not_lt.mpr z.2))
    · refine xs_f 13 r_47_12 rfl ?_
      refine xs_f 17 r_47_13 rfl ?_
      refine xs_ret r_47_17 rfl ?_
      first
        | exact k1 ⟨Int32.not_lt.mp ha, Int32.not_lt.mp hb⟩
        | exact k0 (fun z => absurd ha (Int32.not_lt.mpr z.1))
        | exact k0 (fun z => absurd hb (Int32.not_lt.mpr z.2))

theorem e_44 {S : XSc} {d : Nat} {h : XH} {Q : XO → XH → Prop} {t n p c : Nat} {Bu nu : Nat → Int32} (hT : TxP h.1 t n p c Bu nu) (h32 : 32 ≤ t) {x : Int32} (k1 : p < n → Bu p = x → ∀ f, TxP f t n (p + 1) c Bu nu → Fr h.1 f t (t + 1) → Q (.inl (some (.int 1))) (f, h.2)) (k0 : ¬ (p < n ∧ Bu p = x) → Q (.inl (some (.int 0))) h) : xP S d 44 0 [(0, .ref t), (1, .int x)] [] h Q := by
  obtain ⟨t1, t2, t3, t4, t5, t6⟩ := id hT
  refine xs_f 1 r_44_0 rfl ?_
  refine xs_get 4 r_44_1 rfl rfl (by first | assumption | exact xup_s | exact t1 | (refine (xup_n (by omega)).trans ?_; first | assumption | exact xup_s | exact t1) | (refine (xup_n (by omega)).trans ((xup_n (by omega)).trans ?_); first | assumption | exact xup_s | exact t1) | (refine (xup_n (by omega)).trans ((xup_n (by omega)).trans ((xup_n (by omega)).trans ?_)); first | assumption | exact xup_s | exact t1)) (by rfl) ?_
  refine xs_f 5 r_44_4 rfl ?_
  refine xs_get 8 r_44_5 rfl rfl (by first | assumption | exact xup_s | exact t1 | (refine (xup_n (by omega)).trans ?_; first | assumption | exact xup_s | exact t1) | (refine (xup_n (by omega)).trans ((xup_n (by omega)).trans ?_); first | assumption | exact xup_s | exact t1) | (refine (xup_n (by omega)).trans ((xup_n (by omega)).trans ((xup_n (by omega)).trans ?_)); first | assumption | exact xup_s | exact t1)) (by rfl) ?_
  refine xs_if 24 11 r_44_8 rfl (fun hc1 => ?_) (fun hc1 => ?_)
  · have hc1 := (nI_leN rfl rfl (by omega) (by omega)).mp hc1
    refine xs_f 25 r_44_24 rfl ?_
    refine xs_ret r_44_25 rfl ?_
    first
      | exact k1 (by omega) he f1 ⟨by rw [x1, nI_succ]; rfl, t2.fr (y1 _ (by omega)), t3.fr (y1 _ (by omega)), t4, by omega, t6⟩ y1
      | exact k0 (fun z => he z.2)
      | exact k0 (fun z => by omega)
  · have hc1 := mt (nI_leN rfl rfl (by omega) (by omega)).mpr hc1
    refine xs_f 12 r_44_11 rfl ?_
    refine xs_get 15 r_44_12 rfl rfl (by first | assumption | exact xup_s | exact t1 | (refine (xup_n (by omega)).trans ?_; first | assumption | exact xup_s | exact t1) | (refine (xup_n (by omega)).trans ((xup_n (by omega)).trans ?_); first | assumption | exact xup_s | exact t1) | (refine (xup_n (by omega)).trans ((xup_n (by omega)).trans ((xup_n (by omega)).trans ?_)); first | assumption | exact xup_s | exact t1)) (by rfl) ?_
    refine xs_f 16 r_44_15 rfl ?_
    refine xs_get 19 r_44_16 rfl rfl (by first | assumption | exact xup_s | exact t1 | (refine (xup_n (by omega)).trans ?_; first | assumption | exact xup_s | exact t1) | (refine (xup_n (by omega)).trans ((xup_n (by omega)).trans ?_); first | assumption | exact xup_s | exact t1) | (refine (xup_n (by omega)).trans ((xup_n (by omega)).trans ((xup_n (by omega)).trans ?_)); first | assumption | exact xup_s | exact t1)) (by rfl) ?_
    refine xs_aldC 20 r_44_19 (fun _ _ => rfl) rfl rfl rfl (j := p) rfl (by first | assumption | exact t2 | exact t3 | (refine IA.fr ?_ (xup_n (by omega)); first | assumption | exact t2 | exact t3) | (refine IA.fr (IA.fr ?_ (xup_n (by omega))) (xup_n (by omega)); first | assumption | exact t2 | exact t3) | (refine IA.fr (IA.fr (IA.fr ?_ (xup_n (by omega))) (xup_n (by omega))) (xup_n (by omega)); first | assumption | exact t2 | exact t3)) (by omega) ?_
    refine xs_f 21 r_44_20 rfl ?_
    refine xs_if 26 24 r_44_21 rfl (fun he => ?_) (fun he => ?_)
    · refine xs_f 27 r_44_26 rfl ?_
      refine xs_f 28 r_44_27 rfl ?_
      refine xs_get 31 r_44_28 rfl rfl (by first | assumption | exact xup_s | exact t1 | (refine (xup_n (by omega)).trans ?_; first | assumption | exact xup_s | exact t1) | (refine (xup_n (by omega)).trans ((xup_n (by omega)).trans ?_); first | assumption | exact xup_s | exact t1) | (refine (xup_n (by omega)).trans ((xup_n (by omega)).trans ((xup_n (by omega)).trans ?_)); first | assumption | exact xup_s | exact t1)) (by rfl) ?_
      refine xs_f 32 r_44_31 rfl ?_
      refine xs_f 33 r_44_32 rfl ?_
      refine xs_putC 36 r_44_33 rfl (by first | assumption | exact xup_s | exact t1 | (refine (xup_n (by omega)).trans ?_; first | assumption | exact xup_s | exact t1) | (refine (xup_n (by omega)).trans ((xup_n (by omega)).trans ?_); first | assumption | exact xup_s | exact t1) | (refine (xup_n (by omega)).trans ((xup_n (by omega)).trans ((xup_n (by omega)).trans ?_)); first | assumption | exact xup_s | exact t1)) (by rfl) (by rfl) (fun f1 x1 y1 => ?_)
      refine xs_f 37 r_44_36 rfl ?_
      refine xs_ret r_44_37 rfl ?_
      first
        | exact k1 (by omega) he f1 ⟨by rw [x1, nI_succ]; rfl, t2.fr (y1 _ (by omega)), t3.fr (y1 _ (by omega)), t4, by omega, t6⟩ y1
        | exact k0 (fun z => he z.2)
        | exact k0 (fun z => by omega)
    · refine xs_f 25 r_44_24 rfl ?_
      refine xs_ret r_44_25 rfl ?_
      first
        | exact k1 (by omega) he f1 ⟨by rw [x1, nI_succ]; rfl, t2.fr (y1 _ (by omega)), t3.fr (y1 _ (by omega)), t4, by omega, t6⟩ y1
        | exact k0 (fun z => he z.2)
        | exact k0 (fun z => by omega)

theorem el_46 {S : XSc} {d : Nat} {h : XH} {Q : XO → XH → Prop} {t n p c : Nat} {Bu nu : Nat → Int32} (hT : TxP h.1 t n p c Bu nu) (h32 : 32 ≤ t) {mx : Nat} (hmx : mx ≤ 9) (hp : p ≤ n) (k1 : ∀ j, dgs Bu n p mx j → 0 < j → c < 6 → ∀ f, TxP f t n (p + j) (c + 1) Bu (xw nu c (dv Bu p j)) → Fr h.1 f t (t + 3) → Q (.inl (some (.int 1))) (f, h.2)) (k0 : ∀ j, dgs Bu n p mx j → (j = 0 ∨ c = 6) → ∀ f, TxP f t n (p + j) c Bu nu → Fr h.1 f t (t + 3) → Q (.inl (some (.int 0))) (f, h.2)) : ∀ (m : Nat) (j : Nat) (f : Nat → Option XE), mx - j < m → (j ≤ mx) → (p + j ≤ n) → (∀ x, x < j → dgt (Bu (p + x))) → (TxP f t n (p + j) c Bu nu) → (Fr h.1 f t (t + 3)) → xP S (d + 1) 46 4 [(0, .ref t), (1, .int (nI mx)), (2, .int (dv Bu p j)), (3, .int (nI j))] [] (f, h.2) Q := by
  intro m
  induction m with
  | zero => intro j f hm; exact absurd hm (Nat.not_lt_zero _)
  | succ m ih =>
    intro j f hm hj hjn hd_ hT1 hF
    obtain ⟨t1, t2, t3, t4, t5, t6⟩ := id hT
    obtain ⟨o1, g2, g3, -, g5, -⟩ := id hT1
    refine xs_f 5 r_46_4 rfl ?_
    refine xs_f 6 r_46_5 rfl ?_
    refine xs_if 69 9 r_46_6 rfl (fun hc1 => ?_) (fun hc1 => ?_)
    · have hc1 := (nI_leN rfl rfl (by omega) (by omega)).mp hc1
      have hd : dgs Bu n p mx j := ⟨hj, hjn, hd_, by first | exact Or.inl (by omega) | exact Or.inr (fun z => by omega) | exact Or.inr (fun z => hg z.2)⟩
      refine xs_f 70 r_46_69 rfl ?_
      refine xs_if 82 73 r_46_70 rfl (fun hc1 => ?_) (fun hc1 => ?_)
      · have hc1 := (nI_eqN rfl (nI_k 0) (by omega) (by omega)).mp hc1
        refine xs_f 83 r_46_82 rfl ?_
        refine xs_ret r_46_83 rfl ?_
        first
          | exact k0 j hd (by omega) f hT1 hF
          | exact k1 j hd (by omega) (by omega) f2 ⟨by rw [x2]; show some (Sum.inr (2, [Value.ref (t + 1), Value.ref (t + 2), Value.int (nI n), Value.int (nI (p + j)), Value.int (nI c + 1)])) = _; rw [nI_succ c], (g2.fr (y1 _ (by omega))).fr (y2 _ (by omega)), x1.fr (y2 _ (by omega)), t4, by omega, by omega⟩ (hF.tr ((y1.wd (by omega) (by omega)).tr (y2.wd (by omega) (by omega))))
      · have hc1 := mt (nI_eqN rfl (nI_k 0) (by omega) (by omega)).mpr hc1
        refine xs_f 74 r_46_73 rfl ?_
        refine xs_get 77 r_46_74 rfl rfl (by first | assumption | exact xup_s | exact o1 | (refine (xup_n (by omega)).trans ?_; first | assumption | exact xup_s | exact o1) | (refine (xup_n (by omega)).trans ((xup_n (by omega)).trans ?_); first | assumption | exact xup_s | exact o1) | (refine (xup_n (by omega)).trans ((xup_n (by omega)).trans ((xup_n (by omega)).trans ?_)); first | assumption | exact xup_s | exact o1)) (by rfl) ?_
        refine xs_f 79 r_46_77 rfl ?_
        refine xs_if 84 82 r_46_79 rfl (fun hc2 => ?_) (fun hc2 => ?_)
        · have hc2 := (nI_ltN rfl (nI_k 6) (by omega) (by omega)).mp hc2
          refine xs_f 85 r_46_84 rfl ?_
          refine xs_get 88 r_46_85 rfl rfl (by first | assumption | exact xup_s | exact o1 | (refine (xup_n (by omega)).trans ?_; first | assumption | exact xup_s | exact o1) | (refine (xup_n (by omega)).trans ((xup_n (by omega)).trans ?_); first | assumption | exact xup_s | exact o1) | (refine (xup_n (by omega)).trans ((xup_n (by omega)).trans ((xup_n (by omega)).trans ?_)); first | assumption | exact xup_s | exact o1)) (by rfl) ?_
          refine xs_f 89 r_46_88 rfl ?_
          refine xs_get 92 r_46_89 rfl rfl (by first | assumption | exact xup_s | exact o1 | (refine (xup_n (by omega)).trans ?_; first | assumption | exact xup_s | exact o1) | (refine (xup_n (by omega)).trans ((xup_n (by omega)).trans ?_); first | assumption | exact xup_s | exact o1) | (refine (xup_n (by omega)).trans ((xup_n (by omega)).trans ((xup_n (by omega)).trans ?_)); first | assumption | exact xup_s | exact o1)) (by rfl) ?_
          refine xs_f 93 r_46_92 rfl ?_
          refine xs_astI 94 r_46_93 (fun _ _ => rfl) rfl rfl rfl (j := c) rfl (by first | assumption | exact t2 | exact t3 | exact g3 | (refine IA.fr ?_ (xup_n (by omega)); first | assumption | exact t2 | exact t3 | exact g3) | (refine IA.fr (IA.fr ?_ (xup_n (by omega))) (xup_n (by omega)); first | assumption | exact t2 | exact t3 | exact g3) | (refine IA.fr (IA.fr (IA.fr ?_ (xup_n (by omega))) (xup_n (by omega))) (xup_n (by omega)); first | assumption | exact t2 | exact t3 | exact g3)) (by omega) (fun f1 x1 y1 => ?_)
          have o2 := (y1 t (by omega)).trans o1
          refine xs_f 95 r_46_94 rfl ?_
          refine xs_f 96 r_46_95 rfl ?_
          refine xs_get 99 r_46_96 rfl rfl o2 (by rfl) ?_
          refine xs_f 100 r_46_99 rfl ?_
          refine xs_f 101 r_46_100 rfl ?_
          refine xs_putC 104 r_46_101 rfl o2 (by rfl) (by rfl) (fun f2 x2 y2 => ?_)
          refine xs_f 105 r_46_104 rfl ?_
          refine xs_ret r_46_105 rfl ?_
          first
            | exact k0 j hd (by omega) f hT1 hF
            | exact k1 j hd (by omega) (by omega) f2 ⟨by rw [x2]; show some (Sum.inr (2, [Value.ref (t + 1), Value.ref (t + 2), Value.int (nI n), Value.int (nI (p + j)), Value.int (nI c + 1)])) = _; rw [nI_succ c], (g2.fr (y1 _ (by omega))).fr (y2 _ (by omega)), x1.fr (y2 _ (by omega)), t4, by omega, by omega⟩ (hF.tr ((y1.wd (by omega) (by omega)).tr (y2.wd (by omega) (by omega))))
        · have hc2 := mt (nI_ltN rfl (nI_k 6) (by omega) (by omega)).mpr hc2
          refine xs_f 83 r_46_82 rfl ?_
          refine xs_ret r_46_83 rfl ?_
          first
            | exact k0 j hd (by omega) f hT1 hF
            | exact k1 j hd (by omega) (by omega) f2 ⟨by rw [x2]; show some (Sum.inr (2, [Value.ref (t + 1), Value.ref (t + 2), Value.int (nI n), Value.int (nI (p + j)), Value.int (nI c + 1)])) = _; rw [nI_succ c], (g2.fr (y1 _ (by omega))).fr (y2 _ (by omega)), x1.fr (y2 _ (by omega)), t4, by omega, by omega⟩ (hF.tr ((y1.wd (by omega) (by omega)).tr (y2.wd (by omega) (by omega))))
    · have hc1 := mt (nI_leN rfl rfl (by omega) (by omega)).mpr hc1
      refine xs_f 10 r_46_9 rfl ?_
      refine xs_get 13 r_46_10 rfl rfl (by first | assumption | exact xup_s | exact o1 | (refine (xup_n (by omega)).trans ?_; first | assumption | exact xup_s | exact o1) | (refine (xup_n (by omega)).trans ((xup_n (by omega)).trans ?_); first | assumption | exact xup_s | exact o1) | (refine (xup_n (by omega)).trans ((xup_n (by omega)).trans ((xup_n (by omega)).trans ?_)); first | assumption | exact xup_s | exact o1)) (by rfl) ?_
      refine xs_f 14 r_46_13 rfl ?_
      refine xs_get 17 r_46_14 rfl rfl (by first | assumption | exact xup_s | exact o1 | (refine (xup_n (by omega)).trans ?_; first | assumption | exact xup_s | exact o1) | (refine (xup_n (by omega)).trans ((xup_n (by omega)).trans ?_); first | assumption | exact xup_s | exact o1) | (refine (xup_n (by omega)).trans ((xup_n (by omega)).trans ((xup_n (by omega)).trans ?_)); first | assumption | exact xup_s | exact o1)) (by rfl) ?_
      refine xs_if 69 20 r_46_17 rfl (fun hc2 => ?_) (fun hc2 => ?_)
      · have hc2 := (nI_leN rfl rfl (by omega) (by omega)).mp hc2
        have hd : dgs Bu n p mx j := ⟨hj, hjn, hd_, by first | exact Or.inl (by omega) | exact Or.inr (fun z => by omega) | exact Or.inr (fun z => hg z.2)⟩
        refine xs_f 70 r_46_69 rfl ?_
        refine xs_if 82 73 r_46_70 rfl (fun hc1 => ?_) (fun hc1 => ?_)
        · have hc1 := (nI_eqN rfl (nI_k 0) (by omega) (by omega)).mp hc1
          refine xs_f 83 r_46_82 rfl ?_
          refine xs_ret r_46_83 rfl ?_
          first
            | exact k0 j hd (by omega) f hT1 hF
            | exact k1 j hd (by omega) (by omega) f2 ⟨by rw [x2]; show some (Sum.inr (2, [Value.ref (t + 1), Value.ref (t + 2), Value.int (nI n), Value.int (nI (p + j)), Value.int (nI c + 1)])) = _; rw [nI_succ c], (g2.fr (y1 _ (by omega))).fr (y2 _ (by omega)), x1.fr (y2 _ (by omega)), t4, by omega, by omega⟩ (hF.tr ((y1.wd (by omega) (by omega)).tr (y2.wd (by omega) (by omega))))
        · have hc1 := mt (nI_eqN rfl (nI_k 0) (by omega) (by omega)).mpr hc1
          refine xs_f 74 r_46_73 rfl ?_
          refine xs_get 77 r_46_74 rfl rfl (by first | assumption | exact xup_s | exact o1 | (refine (xup_n (by omega)).trans ?_; first | assumption | exact xup_s | exact o1) | (refine (xup_n (by omega)).trans ((xup_n (by omega)).trans ?_); first | assumption | exact xup_s | exact o1) | (refine (xup_n (by omega)).trans ((xup_n (by omega)).trans ((xup_n (by omega)).trans ?_)); first | assumption | exact xup_s | exact o1)) (by rfl) ?_
          refine xs_f 79 r_46_77 rfl ?_
          refine xs_if 84 82 r_46_79 rfl (fun hc2 => ?_) (fun hc2 => ?_)
          · have hc2 := (nI_ltN rfl (nI_k 6) (by omega) (by omega)).mp hc2
            refine xs_f 85 r_46_84 rfl ?_
            refine xs_get 88 r_46_85 rfl rfl (by first | assumption | exact xup_s | exact o1 | (refine (xup_n (by omega)).trans ?_; first | assumption | exact xup_s | exact o1) | (refine (xup_n (by omega)).trans ((xup_n (by omega)).trans ?_); first | assumption | exact xup_s | exact o1) | (refine (xup_n (by omega)).trans ((xup_n (by omega)).trans ((xup_n (by omega)).trans ?_)); first | assumption | exact xup_s | exact o1)) (by rfl) ?_
            refine xs_f 89 r_46_88 rfl ?_
            refine xs_get 92 r_46_89 rfl rfl (by first | assumption | exact xup_s | exact o1 | (refine (xup_n (by omega)).trans ?_; first | assumption | exact xup_s | exact o1) | (refine (xup_n (by omega)).trans ((xup_n (by omega)).trans ?_); first | assumption | exact xup_s | exact o1) | (refine (xup_n (by omega)).trans ((xup_n (by omega)).trans ((xup_n (by omega)).trans ?_)); first | assumption | exact xup_s | exact o1)) (by rfl) ?_
            refine xs_f 93 r_46_92 rfl ?_
            refine xs_astI 94 r_46_93 (fun _ _ => rfl) rfl rfl rfl (j := c) rfl (by first | assumption | exact t2 | exact t3 | exact g3 | (refine IA.fr ?_ (xup_n (by omega)); first | assumption | exact t2 | exact t3 | exact g3) | (refine IA.fr (IA.fr ?_ (xup_n (by omega))) (xup_n (by omega)); first | assumption | exact t2 | exact t3 | exact g3) | (refine IA.fr (IA.fr (IA.fr ?_ (xup_n (by omega))) (xup_n (by omega))) (xup_n (by omega)); first | assumption | exact t2 | exact t3 | exact g3)) (by omega) (fun f1 x1 y1 => ?_)
            have o2 := (y1 t (by omega)).trans o1
            refine xs_f 95 r_46_94 rfl ?_
            refine xs_f 96 r_46_95 rfl ?_
            refine xs_get 99 r_46_96 rfl rfl o2 (by rfl) ?_
            refine xs_f 100 r_46_99 rfl ?_
            refine xs_f 101 r_46_100 rfl ?_
            refine xs_putC 104 r_46_101 rfl o2 (by rfl) (by rfl) (fun f2 x2 y2 => ?_)
            refine xs_f 105 r_46_104 rfl ?_
            refine xs_ret r_46_105 rfl ?_
            first
              | exact k0 j hd (by omega) f hT1 hF
              | exact k1 j hd (by omega) (by omega) f2 ⟨by rw [x2]; show some (Sum.inr (2, [Value.ref (t + 1), Value.ref (t + 2), Value.int (nI n), Value.int (nI (p + j)), Value.int (nI c + 1)])) = _; rw [nI_succ c], (g2.fr (y1 _ (by omega))).fr (y2 _ (by omega)), x1.fr (y2 _ (by omega)), t4, by omega, by omega⟩ (hF.tr ((y1.wd (by omega) (by omega)).tr (y2.wd (by omega) (by omega))))
          · have hc2 := mt (nI_ltN rfl (nI_k 6) (by omega) (by omega)).mpr hc2
            refine xs_f 83 r_46_82 rfl ?_
            refine xs_ret r_46_83 rfl ?_
            first
              | exact k0 j hd (by omega) f hT1 hF
              | exact k1 j hd (by omega) (by omega) f2 ⟨by rw [x2]; show some (Sum.inr (2, [Value.ref (t + 1), Value.ref (t + 2), Value.int (nI n), Value.int (nI (p + j)), Value.int (nI c + 1)])) = _; rw [nI_succ c], (g2.fr (y1 _ (by omega))).fr (y2 _ (by omega)), x1.fr (y2 _ (by omega)), t4, by omega, by omega⟩ (hF.tr ((y1.wd (by omega) (by omega)).tr (y2.wd (by omega) (by omega))))
      · have hc2 := mt (nI_leN rfl rfl (by omega) (by omega)).mpr hc2
        refine xs_f 21 r_46_20 rfl ?_
        refine xs_get 24 r_46_21 rfl rfl (by first | assumption | exact xup_s | exact o1 | (refine (xup_n (by omega)).trans ?_; first | assumption | exact xup_s | exact o1) | (refine (xup_n (by omega)).trans ((xup_n (by omega)).trans ?_); first | assumption | exact xup_s | exact o1) | (refine (xup_n (by omega)).trans ((xup_n (by omega)).trans ((xup_n (by omega)).trans ?_)); first | assumption | exact xup_s | exact o1)) (by rfl) ?_
        refine xs_f 25 r_46_24 rfl ?_
        refine xs_get 28 r_46_25 rfl rfl (by first | assumption | exact xup_s | exact o1 | (refine (xup_n (by omega)).trans ?_; first | assumption | exact xup_s | exact o1) | (refine (xup_n (by omega)).trans ((xup_n (by omega)).trans ?_); first | assumption | exact xup_s | exact o1) | (refine (xup_n (by omega)).trans ((xup_n (by omega)).trans ((xup_n (by omega)).trans ?_)); first | assumption | exact xup_s | exact o1)) (by rfl) ?_
        refine xs_aldC 29 r_46_28 (fun _ _ => rfl) rfl rfl rfl (j := (p + j)) rfl (by first | assumption | exact g2 | exact g3 | (refine IA.fr ?_ (xup_n (by omega)); first | assumption | exact g2 | exact g3) | (refine IA.fr (IA.fr ?_ (xup_n (by omega))) (xup_n (by omega)); first | assumption | exact g2 | exact g3) | (refine IA.fr (IA.fr (IA.fr ?_ (xup_n (by omega))) (xup_n (by omega))) (xup_n (by omega)); first | assumption | exact g2 | exact g3)) (by omega) ?_
        refine xs_call (lv2 := [(0, _)]) r_46_29 rfl rfl (by decide) (xcan_1 rfl) rfl (e_47 (fun hg => ?_) (fun hg => ?_))
        · refine xK_v rfl ?_
          refine xs_f 35 r_46_32 rfl ?_
          refine xs_f 36 r_46_35 rfl ?_
          refine xs_f 38 r_46_36 rfl ?_
          refine xs_f 39 r_46_38 rfl ?_
          refine xs_f 40 r_46_39 rfl ?_
          refine xs_get 43 r_46_40 rfl rfl (by first | assumption | exact xup_s | exact o1 | (refine (xup_n (by omega)).trans ?_; first | assumption | exact xup_s | exact o1) | (refine (xup_n (by omega)).trans ((xup_n (by omega)).trans ?_); first | assumption | exact xup_s | exact o1) | (refine (xup_n (by omega)).trans ((xup_n (by omega)).trans ((xup_n (by omega)).trans ?_)); first | assumption | exact xup_s | exact o1)) (by rfl) ?_
          refine xs_f 44 r_46_43 rfl ?_
          refine xs_get 47 r_46_44 rfl rfl (by first | assumption | exact xup_s | exact o1 | (refine (xup_n (by omega)).trans ?_; first | assumption | exact xup_s | exact o1) | (refine (xup_n (by omega)).trans ((xup_n (by omega)).trans ?_); first | assumption | exact xup_s | exact o1) | (refine (xup_n (by omega)).trans ((xup_n (by omega)).trans ((xup_n (by omega)).trans ?_)); first | assumption | exact xup_s | exact o1)) (by rfl) ?_
          refine xs_aldC 48 r_46_47 (fun _ _ => rfl) rfl rfl rfl (j := (p + j)) rfl (by first | assumption | exact g2 | exact g3 | (refine IA.fr ?_ (xup_n (by omega)); first | assumption | exact g2 | exact g3) | (refine IA.fr (IA.fr ?_ (xup_n (by omega))) (xup_n (by omega)); first | assumption | exact g2 | exact g3) | (refine IA.fr (IA.fr (IA.fr ?_ (xup_n (by omega))) (xup_n (by omega))) (xup_n (by omega)); first | assumption | exact g2 | exact g3)) (by omega) ?_
          refine xs_f 50 r_46_48 rfl ?_
          refine xs_f 51 r_46_50 rfl ?_
          refine xs_f 52 r_46_51 rfl ?_
          refine xs_f 53 (lv2 := [(2, _), (0, _), (1, _), (3, _)]) r_46_52 rfl ?_
          refine xs_f 56 (lv2 := [(3, _), (2, _), (0, _), (1, _)]) r_46_53 rfl ?_
          refine xs_f 57 r_46_56 rfl ?_
          refine xs_f 58 r_46_57 rfl ?_
          refine xs_get 61 r_46_58 rfl rfl (by first | assumption | exact xup_s | exact o1 | (refine (xup_n (by omega)).trans ?_; first | assumption | exact xup_s | exact o1) | (refine (xup_n (by omega)).trans ((xup_n (by omega)).trans ?_); first | assumption | exact xup_s | exact o1) | (refine (xup_n (by omega)).trans ((xup_n (by omega)).trans ((xup_n (by omega)).trans ?_)); first | assumption | exact xup_s | exact o1)) (by rfl) ?_
          refine xs_f 62 r_46_61 rfl ?_
          refine xs_f 63 r_46_62 rfl ?_
          refine xs_putC 66 r_46_63 rfl (by first | assumption | exact xup_s | exact o1 | (refine (xup_n (by omega)).trans ?_; first | assumption | exact xup_s | exact o1) | (refine (xup_n (by omega)).trans ((xup_n (by omega)).trans ?_); first | assumption | exact xup_s | exact o1) | (refine (xup_n (by omega)).trans ((xup_n (by omega)).trans ((xup_n (by omega)).trans ?_)); first | assumption | exact xup_s | exact o1)) (by rfl) (by rfl) (fun f1 x1 y1 => ?_)
          refine xs_f 4 r_46_66 rfl ?_
          exact xP_lv [(0, .ref t), (1, .int (nI mx)), (2, .int (dv Bu p (j + 1))), (3, .int (nI (j + 1)))] rfl ⟨rfl, rfl, rfl, (by rw [nI_succ]; rfl), trivial⟩ (ih (j + 1) f1 (by omega) (by omega) (by omega) (fun x hx => by
              by_cases z : x = j
              · rw [z]; exact hg
              · exact hd_ x (by omega)) ⟨by rw [x1]; show some (Sum.inr (2, [Value.ref (t + 1), Value.ref (t + 2), Value.int (nI n), Value.int (nI (p + j) + 1), Value.int (nI c)])) = _; rw [← Nat.add_assoc, nI_succ (p + j)], g2.fr (y1 _ (by omega)), g3.fr (y1 _ (by omega)), t4, by omega, t6⟩ (hF.tr (y1.wd (by omega) (by omega))))
        · refine xK_v rfl ?_
          refine xs_f 69 r_46_32 rfl ?_
          have hd : dgs Bu n p mx j := ⟨hj, hjn, hd_, by first | exact Or.inl (by omega) | exact Or.inr (fun z => by omega) | exact Or.inr (fun z => hg z.2)⟩
          refine xs_f 70 r_46_69 rfl ?_
          refine xs_if 82 73 r_46_70 rfl (fun hc1 => ?_) (fun hc1 => ?_)
          · have hc1 := (nI_eqN rfl (nI_k 0) (by omega) (by omega)).mp hc1
            refine xs_f 83 r_46_82 rfl ?_
            refine xs_ret r_46_83 rfl ?_
            first
              | exact k0 j hd (by omega) f hT1 hF
              | exact k1 j hd (by omega) (by omega) f2 ⟨by rw [x2]; show some (Sum.inr (2, [Value.ref (t + 1), Value.ref (t + 2), Value.int (nI n), Value.int (nI (p + j)), Value.int (nI c + 1)])) = _; rw [nI_succ c], (g2.fr (y1 _ (by omega))).fr (y2 _ (by omega)), x1.fr (y2 _ (by omega)), t4, by omega, by omega⟩ (hF.tr ((y1.wd (by omega) (by omega)).tr (y2.wd (by omega) (by omega))))
          · have hc1 := mt (nI_eqN rfl (nI_k 0) (by omega) (by omega)).mpr hc1
            refine xs_f 74 r_46_73 rfl ?_
            refine xs_get 77 r_46_74 rfl rfl (by first | assumption | exact xup_s | exact o1 | (refine (xup_n (by omega)).trans ?_; first | assumption | exact xup_s | exact o1) | (refine (xup_n (by omega)).trans ((xup_n (by omega)).trans ?_); first | assumption | exact xup_s | exact o1) | (refine (xup_n (by omega)).trans ((xup_n (by omega)).trans ((xup_n (by omega)).trans ?_)); first | assumption | exact xup_s | exact o1)) (by rfl) ?_
            refine xs_f 79 r_46_77 rfl ?_
            refine xs_if 84 82 r_46_79 rfl (fun hc2 => ?_) (fun hc2 => ?_)
            · have hc2 := (nI_ltN rfl (nI_k 6) (by omega) (by omega)).mp hc2
              refine xs_f 85 r_46_84 rfl ?_
              refine xs_get 88 r_46_85 rfl rfl (by first | assumption | exact xup_s | exact o1 | (refine (xup_n (by omega)).trans ?_; first | assumption | exact xup_s | exact o1) | (refine (xup_n (by omega)).trans ((xup_n (by omega)).trans ?_); first | assumption | exact xup_s | exact o1) | (refine (xup_n (by omega)).trans ((xup_n (by omega)).trans ((xup_n (by omega)).trans ?_)); first | assumption | exact xup_s | exact o1)) (by rfl) ?_
              refine xs_f 89 r_46_88 rfl ?_
              refine xs_get 92 r_46_89 rfl rfl (by first | assumption | exact xup_s | exact o1 | (refine (xup_n (by omega)).trans ?_; first | assumption | exact xup_s | exact o1) | (refine (xup_n (by omega)).trans ((xup_n (by omega)).trans ?_); first | assumption | exact xup_s | exact o1) | (refine (xup_n (by omega)).trans ((xup_n (by omega)).trans ((xup_n (by omega)).trans ?_)); first | assumption | exact xup_s | exact o1)) (by rfl) ?_
              refine xs_f 93 r_46_92 rfl ?_
              refine xs_astI 94 r_46_93 (fun _ _ => rfl) rfl rfl rfl (j := c) rfl (by first | assumption | exact t2 | exact t3 | exact g3 | (refine IA.fr ?_ (xup_n (by omega)); first | assumption | exact t2 | exact t3 | exact g3) | (refine IA.fr (IA.fr ?_ (xup_n (by omega))) (xup_n (by omega)); first | assumption | exact t2 | exact t3 | exact g3) | (refine IA.fr (IA.fr (IA.fr ?_ (xup_n (by omega))) (xup_n (by omega))) (xup_n (by omega)); first | assumption | exact t2 | exact t3 | exact g3)) (by omega) (fun f1 x1 y1 => ?_)
              have o2 := (y1 t (by omega)).trans o1
              refine xs_f 95 r_46_94 rfl ?_
              refine xs_f 96 r_46_95 rfl ?_
              refine xs_get 99 r_46_96 rfl rfl o2 (by rfl) ?_
              refine xs_f 100 r_46_99 rfl ?_
              refine xs_f 101 r_46_100 rfl ?_
              refine xs_putC 104 r_46_101 rfl o2 (by rfl) (by rfl) (fun f2 x2 y2 => ?_)
              refine xs_f 105 r_46_104 rfl ?_
              refine xs_ret r_46_105 rfl ?_
              first
                | exact k0 j hd (by omega) f hT1 hF
                | exact k1 j hd (by omega) (by omega) f2 ⟨by rw [x2]; show some (Sum.inr (2, [Value.ref (t + 1), Value.ref (t + 2), Value.int (nI n), Value.int (nI (p + j)), Value.int (nI c + 1)])) = _; rw [nI_succ c], (g2.fr (y1 _ (by omega))).fr (y2 _ (by omega)), x1.fr (y2 _ (by omega)), t4, by omega, by omega⟩ (hF.tr ((y1.wd (by omega) (by omega)).tr (y2.wd (by omega) (by omega))))
            · have hc2 := mt (nI_ltN rfl (nI_k 6) (by omega) (by omega)).mpr hc2
              refine xs_f 83 r_46_82 rfl ?_
              refine xs_ret r_46_83 rfl ?_
              first
                | exact k0 j hd (by omega) f hT1 hF
                | exact k1 j hd (by omega) (by omega) f2 ⟨by rw [x2]; show some (Sum.inr (2, [Value.ref (t + 1), Value.ref (t + 2), Value.int (nI n), Value.int (nI (p + j)), Value.int (nI c + 1)])) = _; rw [nI_succ c], (g2.fr (y1 _ (by omega))).fr (y2 _ (by omega)), x1.fr (y2 _ (by omega)), t4, by omega, by omega⟩ (hF.tr ((y1.wd (by omega) (by omega)).tr (y2.wd (by omega) (by omega))))

theorem e_46 {S : XSc} {d : Nat} {h : XH} {Q : XO → XH → Prop} {t n p c : Nat} {Bu nu : Nat → Int32} (hT : TxP h.1 t n p c Bu nu) (h32 : 32 ≤ t) {mx : Nat} (hmx : mx ≤ 9) (hp : p ≤ n) (k1 : ∀ j, dgs Bu n p mx j → 0 < j → c < 6 → ∀ f, TxP f t n (p + j) (c + 1) Bu (xw nu c (dv Bu p j)) → Fr h.1 f t (t + 3) → Q (.inl (some (.int 1))) (f, h.2)) (k0 : ∀ j, dgs Bu n p mx j → (j = 0 ∨ c = 6) → ∀ f, TxP f t n (p + j) c Bu nu → Fr h.1 f t (t + 3) → Q (.inl (some (.int 0))) (f, h.2)) : xP S (d + 1) 46 0 [(0, .ref t), (1, .int (nI mx))] [] h Q := by
  refine xs_f 1 r_46_0 rfl ?_
  refine xs_f 2 (lv2 := [(2, _), (0, _), (1, _)]) r_46_1 rfl ?_
  refine xs_f 3 r_46_2 rfl ?_
  refine xs_f 4 (lv2 := [(3, _), (2, _), (0, _), (1, _)]) r_46_3 rfl ?_
  exact xP_lv [(0, .ref t), (1, .int (nI mx)), (2, .int (dv Bu p 0)), (3, .int (nI 0))] rfl ⟨rfl, rfl, rfl, rfl, trivial⟩ (el_46 hT h32 hmx hp k1 k0 (mx + 1) 0 h.1 (by omega) (by omega) (by omega) (fun x hx => absurd hx (Nat.not_lt_zero _)) hT Fr.rf)

theorem e_125 {S : XSc} {d : Nat} {h : XH} {Q : XO → XH → Prop} {b w1 w2 w3 w5 : Nat} {i1 i2 i3 : Int32} {e t n p c : Nat} {Bu nu : Nat → Int32} (o0 : h.1 e = some (.inr (8, [.ref b, .ref w1, .ref w2, .ref w3, .ref t, .ref w5, .int i1, .int i2, .int i3]))) (hT : TxP h.1 t n p c Bu nu) (h32 : 32 ≤ t) {x : Int32} (hx : vp_nar .char x = x) (k0 : n = 60 → Q (.inr 0) (xbump h)) (k1 : n < 60 → ∀ f, TxP f t (n + 1) p c (xw Bu n x) nu → Fr h.1 f t (t + 3) → Q (.inl (some (.int (nI (n + 1))))) (f, h.2)) : xP S (d + 1) 125 0 [(0, .ref e), (1, .int x)] [] h Q := by
  have t1 := hT.1
  refine xs_f 1 r_125_0 rfl ?_
  refine xs_get 4 r_125_1 rfl rfl (by first | assumption | exact xup_s | exact o0 | exact t1 | (refine (xup_n (by omega)).trans ?_; first | assumption | exact xup_s | exact o0 | exact t1) | (refine (xup_n (by omega)).trans ((xup_n (by omega)).trans ?_); first | assumption | exact xup_s | exact o0 | exact t1) | (refine (xup_n (by omega)).trans ((xup_n (by omega)).trans ((xup_n (by omega)).trans ?_)); first | assumption | exact xup_s | exact o0 | exact t1)) (by rfl) ?_
  refine xs_call (lv2 := [(0, _)]) r_125_4 rfl rfl (by decide) (xcan_0 rfl rfl (by first | assumption | exact xup_s | exact o0 | exact t1 | (refine (xup_n (by omega)).trans ?_; first | assumption | exact xup_s | exact o0 | exact t1) | (refine (xup_n (by omega)).trans ((xup_n (by omega)).trans ?_); first | assumption | exact xup_s | exact o0 | exact t1) | (refine (xup_n (by omega)).trans ((xup_n (by omega)).trans ((xup_n (by omega)).trans ?_)); first | assumption | exact xup_s | exact o0 | exact t1)) (by rfl)) rfl (e_36 hT h32 (fun hn => ?_) (fun hn => ?_))
  · refine xK_v rfl ?_
    refine xs_f 10 r_125_7 rfl ?_
    refine xs_thr r_125_10 rfl ?_
    exact k0 hn
  · refine xK_v rfl ?_
    refine xs_f 21 r_125_7 rfl ?_
    refine xs_f 22 r_125_21 rfl ?_
    refine xs_get 25 r_125_22 rfl rfl (by first | assumption | exact xup_s | exact o0 | exact t1 | (refine (xup_n (by omega)).trans ?_; first | assumption | exact xup_s | exact o0 | exact t1) | (refine (xup_n (by omega)).trans ((xup_n (by omega)).trans ?_); first | assumption | exact xup_s | exact o0 | exact t1) | (refine (xup_n (by omega)).trans ((xup_n (by omega)).trans ((xup_n (by omega)).trans ?_)); first | assumption | exact xup_s | exact o0 | exact t1)) (by rfl) ?_
    refine xs_f 26 r_125_25 rfl ?_
    refine xs_call (lv2 := [(0, _), (1, _)]) r_125_26 rfl rfl (by decide) (xcan_0 rfl rfl (by first | assumption | exact xup_s | exact o0 | exact t1 | (refine (xup_n (by omega)).trans ?_; first | assumption | exact xup_s | exact o0 | exact t1) | (refine (xup_n (by omega)).trans ((xup_n (by omega)).trans ?_); first | assumption | exact xup_s | exact o0 | exact t1) | (refine (xup_n (by omega)).trans ((xup_n (by omega)).trans ((xup_n (by omega)).trans ?_)); first | assumption | exact xup_s | exact o0 | exact t1)) (by rfl)) rfl (e_37 hT h32 hx hn (fun f1 x1 y1 => ?_))
    refine xK_v rfl ?_
    refine xs_ret r_125_29 rfl ?_
    exact k1 hn f1 x1 y1

