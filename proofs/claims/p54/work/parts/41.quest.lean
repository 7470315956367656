/-! players and questions -/
/-- a player: coins, points, out, sizes, hits -/
abbrev XPl : Type := Int32 × (Int32 × (Bool × ((Nat → Int32) × (Nat → Int32))))
def PAt (f : Nat → Option XE) (a : Nat) (p : XPl) : Prop := f a = some (.inr (6, [.ref (a + 1), .int p.1, .int p.2.1, .int (bI p.2.2.1)])) ∧ BAt f (a + 1) p.2.2.2.1 p.2.2.2.2
theorem PAt.fr {f g : Nat → Option XE} {a : Nat} {p : XPl} (h : PAt f a p) (e : ∀ c, a ≤ c → c < a + 4 → g c = f c) : PAt g a p :=
  ⟨(e a (by omega) (by omega)).trans h.1, h.2.fr (fun c h1 h2 => e c (by omega) (by omega))⟩
theorem c_72 {S : XSc} {d : Nat} {h : XH} {Q : XO → XH → Prop} {a : Nat} {p : XPl} (hP : PAt h.1 a p) (h32 : 32 ≤ a) (k : ∀ f, PAt f a (100, (0, (false, (fun _ => 0, fun _ => 0)))) → Fr h.1 f a (a + 4) → Q (.inl none) (f, h.2)) : xP S (d + 2) 72 0 [(0, .ref a)] [] h Q := by
  obtain ⟨p1, p2⟩ := id hP
  refine xs_f 1 r_72_0 rfl ?_
  refine xs_get 4 r_72_1 rfl rfl (by first | assumption | exact xup_s | exact ((y1 a (by omega)).trans p1) | exact p2.1 | (refine (xup_n (by omega)).trans ?_; first | assumption | exact xup_s | exact ((y1 a (by omega)).trans p1) | exact p2.1) | (refine (xup_n (by omega)).trans ((xup_n (by omega)).trans ?_); first | assumption | exact xup_s | exact ((y1 a (by omega)).trans p1) | exact p2.1) | (refine (xup_n (by omega)).trans ((xup_n (by omega)).trans ((xup_n (by omega)).trans ?_)); first | assumption | exact xup_s | exact ((y1 a (by omega)).trans p1) | exact p2.1)) (by rfl) ?_
  refine xs_call (lv2 := [(0, _)]) r_72_4 rfl rfl (by decide) (xcan_0 rfl rfl (by first | assumption | exact xup_s | exact ((y1 a (by omega)).trans p1) | exact p2.1 | (refine (xup_n (by omega)).trans ?_; first | assumption | exact xup_s | exact ((y1 a (by omega)).trans p1) | exact p2.1) | (refine (xup_n (by omega)).trans ((xup_n (by omega)).trans ?_); first | assumption | exact xup_s | exact ((y1 a (by omega)).trans p1) | exact p2.1) | (refine (xup_n (by omega)).trans ((xup_n (by omega)).trans ((xup_n (by omega)).trans ?_)); first | assumption | exact xup_s | exact ((y1 a (by omega)).trans p1) | exact p2.1)) (by rfl)) rfl (c_1 p2 (by omega) (fun f1 x1 y1 => ?_))
  refine xK_0 rfl ?_
  refine xs_f 8 r_72_7 rfl ?_
  refine xs_f 10 r_72_8 rfl ?_
  refine xs_put 13 r_72_10 rfl (by first | assumption | exact xup_s | exact ((y1 a (by omega)).trans p1) | exact p2.1 | (refine (xup_n (by omega)).trans ?_; first | assumption | exact xup_s | exact ((y1 a (by omega)).trans p1) | exact p2.1) | (refine (xup_n (by omega)).trans ((xup_n (by omega)).trans ?_); first | assumption | exact xup_s | exact ((y1 a (by omega)).trans p1) | exact p2.1) | (refine (xup_n (by omega)).trans ((xup_n (by omega)).trans ((xup_n (by omega)).trans ?_)); first | assumption | exact xup_s | exact ((y1 a (by omega)).trans p1) | exact p2.1)) (by rfl) (by rfl) ?_
  refine xs_f 14 r_72_13 rfl ?_
  refine xs_f 15 r_72_14 rfl ?_
  refine xs_put 18 r_72_15 rfl (by first | assumption | exact xup_s | exact ((y1 a (by omega)).trans p1) | exact p2.1 | (refine (xup_n (by omega)).trans ?_; first | assumption | exact xup_s | exact ((y1 a (by omega)).trans p1) | exact p2.1) | (refine (xup_n (by omega)).trans ((xup_n (by omega)).trans ?_); first | assumption | exact xup_s | exact ((y1 a (by omega)).trans p1) | exact p2.1) | (refine (xup_n (by omega)).trans ((xup_n (by omega)).trans ((xup_n (by omega)).trans ?_)); first | assumption | exact xup_s | exact ((y1 a (by omega)).trans p1) | exact p2.1)) (by rfl) (by rfl) ?_
  refine xs_f 19 r_72_18 rfl ?_
  refine xs_f 20 r_72_19 rfl ?_
  refine xs_put 23 r_72_20 rfl (by first | assumption | exact xup_s | exact ((y1 a (by omega)).trans p1) | exact p2.1 | (refine (xup_n (by omega)).trans ?_; first | assumption | exact xup_s | exact ((y1 a (by omega)).trans p1) | exact p2.1) | (refine (xup_n (by omega)).trans ((xup_n (by omega)).trans ?_); first | assumption | exact xup_s | exact ((y1 a (by omega)).trans p1) | exact p2.1) | (refine (xup_n (by omega)).trans ((xup_n (by omega)).trans ((xup_n (by omega)).trans ?_)); first | assumption | exact xup_s | exact ((y1 a (by omega)).trans p1) | exact p2.1)) (by rfl) (by rfl) ?_
  refine xs_ret r_72_23 rfl ?_
  exact k _ ⟨xup_s, x1.fr (fun c z1 z2 => ((xup_n (by omega)).trans ((xup_n (by omega)).trans (xup_n (by omega)))))⟩ ((((y1.wd (by omega) (by omega)).up' (by omega) (by omega)).up' (by omega) (by omega)).up' (by omega) (by omega))

theorem c_73 {S : XSc} {d : Nat} {h : XH} {Q : XO → XH → Prop} {a b : Nat} {p q : XPl} (hP : PAt h.1 a p) (hR : PAt h.1 b q) (h32 : 32 ≤ a) (h33 : 32 ≤ b) (hab : a + 4 ≤ b ∨ b + 4 ≤ a) (k : ∀ f, PAt f a q → Fr h.1 f a (a + 4) → Q (.inl none) (f, h.2)) : xP S (d + 1) 73 0 [(0, .ref a), (1, .ref b)] [] h Q := by
  obtain ⟨p1, p2⟩ := id hP
  obtain ⟨q1, q2⟩ := id hR
  refine xs_f 1 r_73_0 rfl ?_
  refine xs_get 4 r_73_1 rfl rfl (by first | assumption | exact xup_s | exact ((y1 a (by omega)).trans p1) | exact ((y1 b (by omega)).trans q1) | exact p2.1 | exact p1 | exact q1 | (refine (xup_n (by omega)).trans ?_; first | assumption | exact xup_s | exact ((y1 a (by omega)).trans p1) | exact ((y1 b (by omega)).trans q1) | exact p2.1 | exact p1 | exact q1) | (refine (xup_n (by omega)).trans ((xup_n (by omega)).trans ?_); first | assumption | exact xup_s | exact ((y1 a (by omega)).trans p1) | exact ((y1 b (by omega)).trans q1) | exact p2.1 | exact p1 | exact q1) | (refine (xup_n (by omega)).trans ((xup_n (by omega)).trans ((xup_n (by omega)).trans ?_)); first | assumption | exact xup_s | exact ((y1 a (by omega)).trans p1) | exact ((y1 b (by omega)).trans q1) | exact p2.1 | exact p1 | exact q1)) (by rfl) ?_
  refine xs_f 5 r_73_4 rfl ?_
  refine xs_get 8 r_73_5 rfl rfl (by first | assumption | exact xup_s | exact ((y1 a (by omega)).trans p1) | exact ((y1 b (by omega)).trans q1) | exact p2.1 | exact p1 | exact q1 | (refine (xup_n (by omega)).trans ?_; first | assumption | exact xup_s | exact ((y1 a (by omega)).trans p1) | exact ((y1 b (by omega)).trans q1) | exact p2.1 | exact p1 | exact q1) | (refine (xup_n (by omega)).trans ((xup_n (by omega)).trans ?_); first | assumption | exact xup_s | exact ((y1 a (by omega)).trans p1) | exact ((y1 b (by omega)).trans q1) | exact p2.1 | exact p1 | exact q1) | (refine (xup_n (by omega)).trans ((xup_n (by omega)).trans ((xup_n (by omega)).trans ?_)); first | assumption | exact xup_s | exact ((y1 a (by omega)).trans p1) | exact ((y1 b (by omega)).trans q1) | exact p2.1 | exact p1 | exact q1)) (by rfl) ?_
  refine xs_call (lv2 := [(0, _), (1, _)]) r_73_8 rfl rfl (by decide) (xcan_0 rfl rfl (by first | assumption | exact xup_s | exact ((y1 a (by omega)).trans p1) | exact ((y1 b (by omega)).trans q1) | exact p2.1 | exact p1 | exact q1 | (refine (xup_n (by omega)).trans ?_; first | assumption | exact xup_s | exact ((y1 a (by omega)).trans p1) | exact ((y1 b (by omega)).trans q1) | exact p2.1 | exact p1 | exact q1) | (refine (xup_n (by omega)).trans ((xup_n (by omega)).trans ?_); first | assumption | exact xup_s | exact ((y1 a (by omega)).trans p1) | exact ((y1 b (by omega)).trans q1) | exact p2.1 | exact p1 | exact q1) | (refine (xup_n (by omega)).trans ((xup_n (by omega)).trans ((xup_n (by omega)).trans ?_)); first | assumption | exact xup_s | exact ((y1 a (by omega)).trans p1) | exact ((y1 b (by omega)).trans q1) | exact p2.1 | exact p1 | exact q1)) (by rfl)) rfl (c_2 p2 q2 (by omega) (by omega) (by omega) (fun f1 x1 y1 => ?_))
  refine xK_0 rfl ?_
  refine xs_f 12 r_73_11 rfl ?_
  refine xs_f 13 r_73_12 rfl ?_
  refine xs_get 16 r_73_13 rfl rfl (by first | assumption | exact xup_s | exact ((y1 a (by omega)).trans p1) | exact ((y1 b (by omega)).trans q1) | exact p2.1 | exact p1 | exact q1 | (refine (xup_n (by omega)).trans ?_; first | assumption | exact xup_s | exact ((y1 a (by omega)).trans p1) | exact ((y1 b (by omega)).trans q1) | exact p2.1 | exact p1 | exact q1) | (refine (xup_n (by omega)).trans ((xup_n (by omega)).trans ?_); first | assumption | exact xup_s | exact ((y1 a (by omega)).trans p1) | exact ((y1 b (by omega)).trans q1) | exact p2.1 | exact p1 | exact q1) | (refine (xup_n (by omega)).trans ((xup_n (by omega)).trans ((xup_n (by omega)).trans ?_)); first | assumption | exact xup_s | exact ((y1 a (by omega)).trans p1) | exact ((y1 b (by omega)).trans q1) | exact p2.1 | exact p1 | exact q1)) (by rfl) ?_
  refine xs_put 19 r_73_16 rfl (by first | assumption | exact xup_s | exact ((y1 a (by omega)).trans p1) | exact ((y1 b (by omega)).trans q1) | exact p2.1 | exact p1 | exact q1 | (refine (xup_n (by omega)).trans ?_; first | assumption | exact xup_s | exact ((y1 a (by omega)).trans p1) | exact ((y1 b (by omega)).trans q1) | exact p2.1 | exact p1 | exact q1) | (refine (xup_n (by omega)).trans ((xup_n (by omega)).trans ?_); first | assumption | exact xup_s | exact ((y1 a (by omega)).trans p1) | exact ((y1 b (by omega)).trans q1) | exact p2.1 | exact p1 | exact q1) | (refine (xup_n (by omega)).trans ((xup_n (by omega)).trans ((xup_n (by omega)).trans ?_)); first | assumption | exact xup_s | exact ((y1 a (by omega)).trans p1) | exact ((y1 b (by omega)).trans q1) | exact p2.1 | exact p1 | exact q1)) (by rfl) (by rfl) ?_
  refine xs_f 20 r_73_19 rfl ?_
  refine xs_f 21 r_73_20 rfl ?_
  refine xs_get 24 r_73_21 rfl rfl (by first | assumption | exact xup_s | exact ((y1 a (by omega)).trans p1) | exact ((y1 b (by omega)).trans q1) | exact p2.1 | exact p1 | exact q1 | (refine (xup_n (by omega)).trans ?_; first | assumption | exact xup_s | exact ((y1 a (by omega)).trans p1) | exact ((y1 b (by omega)).trans q1) | exact p2.1 | exact p1 | exact q1) | (refine (xup_n (by omega)).trans ((xup_n (by omega)).trans ?_); first | assumption | exact xup_s | exact ((y1 a (by omega)).trans p1) | exact ((y1 b (by omega)).trans q1) | exact p2.1 | exact p1 | exact q1) | (refine (xup_n (by omega)).trans ((xup_n (by omega)).trans ((xup_n (by omega)).trans ?_)); first | assumption | exact xup_s | exact ((y1 a (by omega)).trans p1) | exact ((y1 b (by omega)).trans q1) | exact p2.1 | exact p1 | exact q1)) (by rfl) ?_
  refine xs_put 27 r_73_24 rfl (by first | assumption | exact xup_s | exact ((y1 a (by omega)).trans p1) | exact ((y1 b (by omega)).trans q1) | exact p2.1 | exact p1 | exact q1 | (refine (xup_n (by omega)).trans ?_; first | assumption | exact xup_s | exact ((y1 a (by omega)).trans p1) | exact ((y1 b (by omega)).trans q1) | exact p2.1 | exact p1 | exact q1) | (refine (xup_n (by omega)).trans ((xup_n (by omega)).trans ?_); first | assumption | exact xup_s | exact ((y1 a (by omega)).trans p1) | exact ((y1 b (by omega)).trans q1) | exact p2.1 | exact p1 | exact q1) | (refine (xup_n (by omega)).trans ((xup_n (by omega)).trans ((xup_n (by omega)).trans ?_)); first | assumption | exact xup_s | exact ((y1 a (by omega)).trans p1) | exact ((y1 b (by omega)).trans q1) | exact p2.1 | exact p1 | exact q1)) (by rfl) (by rfl) ?_
  refine xs_f 28 r_73_27 rfl ?_
  refine xs_f 29 r_73_28 rfl ?_
  refine xs_get 32 r_73_29 rfl rfl (by first | assumption | exact xup_s | exact ((y1 a (by omega)).trans p1) | exact ((y1 b (by omega)).trans q1) | exact p2.1 | exact p1 | exact q1 | (refine (xup_n (by omega)).trans ?_; first | assumption | exact xup_s | exact ((y1 a (by omega)).trans p1) | exact ((y1 b (by omega)).trans q1) | exact p2.1 | exact p1 | exact q1) | (refine (xup_n (by omega)).trans ((xup_n (by omega)).trans ?_); first | assumption | exact xup_s | exact ((y1 a (by omega)).trans p1) | exact ((y1 b (by omega)).trans q1) | exact p2.1 | exact p1 | exact q1) | (refine (xup_n (by omega)).trans ((xup_n (by omega)).trans ((xup_n (by omega)).trans ?_)); first | assumption | exact xup_s | exact ((y1 a (by omega)).trans p1) | exact ((y1 b (by omega)).trans q1) | exact p2.1 | exact p1 | exact q1)) (by rfl) ?_
  refine xs_put 35 r_73_32 rfl (by first | assumption | exact xup_s | exact ((y1 a (by omega)).trans p1) | exact ((y1 b (by omega)).trans q1) | exact p2.1 | exact p1 | exact q1 | (refine (xup_n (by omega)).trans ?_; first | assumption | exact xup_s | exact ((y1 a (by omega)).trans p1) | exact ((y1 b (by omega)).trans q1) | exact p2.1 | exact p1 | exact q1) | (refine (xup_n (by omega)).trans ((xup_n (by omega)).trans ?_); first | assumption | exact xup_s | exact ((y1 a (by omega)).trans p1) | exact ((y1 b (by omega)).trans q1) | exact p2.1 | exact p1 | exact q1) | (refine (xup_n (by omega)).trans ((xup_n (by omega)).trans ((xup_n (by omega)).trans ?_)); first | assumption | exact xup_s | exact ((y1 a (by omega)).trans p1) | exact ((y1 b (by omega)).trans q1) | exact p2.1 | exact p1 | exact q1)) (bI_fit _) (by rfl) ?_
  refine xs_ret r_73_35 rfl ?_
  exact k _ ⟨xup_s, x1.fr (fun c z1 z2 => ((xup_n (by omega)).trans ((xup_n (by omega)).trans (xup_n (by omega)))))⟩ ((((y1.wd (by omega) (by omega)).up' (by omega) (by omega)).up' (by omega) (by omega)).up' (by omega) (by omega))

def betB (p q : XPl) : Bool := bif decide (p.2.1 = q.2.1) then decide (xsum q.2.2.2.2 10 < xsum p.2.2.2.2 10) else decide (p.2.1 < q.2.1)
theorem betB_t {p q : XPl} (h : p.2.1 = q.2.1) : betB p q = decide (xsum q.2.2.2.2 10 < xsum p.2.2.2.2 10) := by
  unfold betB
  rw [decide_eq_true h]
  rfl
theorem betB_f {p q : XPl} (h : ¬ p.2.1 = q.2.1) : betB p q = decide (p.2.1 < q.2.1) := by
  unfold betB
  rw [decide_eq_false h]
  rfl
theorem xq_b1 {Q : XO → XH → Prop} {h : XH} {b : Bool} (k : Q (.inl (some (.int (bI b)))) h) (e : b = true) : Q (.inl (some (.int 1))) h := by rw [e] at k; exact k
theorem xq_b0 {Q : XO → XH → Prop} {h : XH} {b : Bool} (k : Q (.inl (some (.int (bI b)))) h) (e : b = false) : Q (.inl (some (.int 0))) h := by rw [e] at k; exact k
theorem c_74 {S : XSc} {d : Nat} {h : XH} {Q : XO → XH → Prop} {a b : Nat} {p q : XPl} (hP : PAt h.1 a p) (hR : PAt h.1 b q) (h32 : 32 ≤ a) (h33 : 32 ≤ b) (k : Q (.inl (some (.int (bI (betB p q))))) h) : xP S (d + 2) 74 0 [(0, .ref a), (1, .ref b)] [] h Q := by
  obtain ⟨p1, p2⟩ := id hP
  obtain ⟨q1, q2⟩ := id hR
  refine xs_f 1 r_74_0 rfl ?_
  refine xs_get 4 r_74_1 rfl rfl (by first | assumption | exact xup_s | exact p2.1 | exact q2.1 | (refine (xup_n (by omega)).trans ?_; first | assumption | exact xup_s | exact p2.1 | exact q2.1) | (refine (xup_n (by omega)).trans ((xup_n (by omega)).trans ?_); first | assumption | exact xup_s | exact p2.1 | exact q2.1) | (refine (xup_n (by omega)).trans ((xup_n (by omega)).trans ((xup_n (by omega)).trans ?_)); first | assumption | exact xup_s | exact p2.1 | exact q2.1)) (by rfl) ?_
  refine xs_f 5 r_74_4 rfl ?_
  refine xs_get 8 r_74_5 rfl rfl (by first | assumption | exact xup_s | exact p2.1 | exact q2.1 | (refine (xup_n (by omega)).trans ?_; first | assumption | exact xup_s | exact p2.1 | exact q2.1) | (refine (xup_n (by omega)).trans ((xup_n (by omega)).trans ?_); first | assumption | exact xup_s | exact p2.1 | exact q2.1) | (refine (xup_n (by omega)).trans ((xup_n (by omega)).trans ((xup_n (by omega)).trans ?_)); first | assumption | exact xup_s | exact p2.1 | exact q2.1)) (by rfl) ?_
  refine xs_if 28 11 r_74_8 rfl (fun he => ?_) (fun he => ?_)
  · rw [betB_t he] at k
    refine xs_f 29 r_74_28 rfl ?_
    refine xs_get 32 r_74_29 rfl rfl (by first | assumption | exact xup_s | exact p2.1 | exact q2.1 | (refine (xup_n (by omega)).trans ?_; first | assumption | exact xup_s | exact p2.1 | exact q2.1) | (refine (xup_n (by omega)).trans ((xup_n (by omega)).trans ?_); first | assumption | exact xup_s | exact p2.1 | exact q2.1) | (refine (xup_n (by omega)).trans ((xup_n (by omega)).trans ((xup_n (by omega)).trans ?_)); first | assumption | exact xup_s | exact p2.1 | exact q2.1)) (by rfl) ?_
    refine xs_call (lv2 := [(0, _)]) r_74_32 rfl rfl (by decide) (xcan_0 rfl rfl (by first | assumption | exact xup_s | exact p2.1 | exact q2.1 | (refine (xup_n (by omega)).trans ?_; first | assumption | exact xup_s | exact p2.1 | exact q2.1) | (refine (xup_n (by omega)).trans ((xup_n (by omega)).trans ?_); first | assumption | exact xup_s | exact p2.1 | exact q2.1) | (refine (xup_n (by omega)).trans ((xup_n (by omega)).trans ((xup_n (by omega)).trans ?_)); first | assumption | exact xup_s | exact p2.1 | exact q2.1)) (by rfl)) rfl (c_7 p2 (by omega) ?_)
    refine xK_v rfl ?_
    refine xs_f 36 r_74_35 rfl ?_
    refine xs_get 39 r_74_36 rfl rfl (by first | assumption | exact xup_s | exact p2.1 | exact q2.1 | (refine (xup_n (by omega)).trans ?_; first | assumption | exact xup_s | exact p2.1 | exact q2.1) | (refine (xup_n (by omega)).trans ((xup_n (by omega)).trans ?_); first | assumption | exact xup_s | exact p2.1 | exact q2.1) | (refine (xup_n (by omega)).trans ((xup_n (by omega)).trans ((xup_n (by omega)).trans ?_)); first | assumption | exact xup_s | exact p2.1 | exact q2.1)) (by rfl) ?_
    refine xs_call (lv2 := [(0, _)]) r_74_39 rfl rfl (by decide) (xcan_0 rfl rfl (by first | assumption | exact xup_s | exact p2.1 | exact q2.1 | (refine (xup_n (by omega)).trans ?_; first | assumption | exact xup_s | exact p2.1 | exact q2.1) | (refine (xup_n (by omega)).trans ((xup_n (by omega)).trans ?_); first | assumption | exact xup_s | exact p2.1 | exact q2.1) | (refine (xup_n (by omega)).trans ((xup_n (by omega)).trans ((xup_n (by omega)).trans ?_)); first | assumption | exact xup_s | exact p2.1 | exact q2.1)) (by rfl)) rfl (c_7 q2 (by omega) ?_)
    refine xK_v rfl ?_
    refine xs_if 49 45 r_74_42 rfl (fun hl => ?_) (fun hl => ?_)
    · refine xs_f 50 r_74_49 rfl ?_
      refine xs_ret r_74_50 rfl ?_
      first | exact xq_b1 k (decide_eq_true (Int32.not_le.mp hl)) | exact xq_b0 k (decide_eq_false (Int32.not_lt.mpr hl))
    · refine xs_f 46 r_74_45 rfl ?_
      refine xs_f 50 r_74_46 rfl ?_
      refine xs_ret r_74_50 rfl ?_
      first | exact xq_b1 k (decide_eq_true (Int32.not_le.mp hl)) | exact xq_b0 k (decide_eq_false (Int32.not_lt.mpr hl))
  · rw [betB_f he] at k
    refine xs_f 12 r_74_11 rfl ?_
    refine xs_get 15 r_74_12 rfl rfl (by first | assumption | exact xup_s | exact p2.1 | exact q2.1 | (refine (xup_n (by omega)).trans ?_; first | assumption | exact xup_s | exact p2.1 | exact q2.1) | (refine (xup_n (by omega)).trans ((xup_n (by omega)).trans ?_); first | assumption | exact xup_s | exact p2.1 | exact q2.1) | (refine (xup_n (by omega)).trans ((xup_n (by omega)).trans ((xup_n (by omega)).trans ?_)); first | assumption | exact xup_s | exact p2.1 | exact q2.1)) (by rfl) ?_
    refine xs_f 16 r_74_15 rfl ?_
    refine xs_get 19 r_74_16 rfl rfl (by first | assumption | exact xup_s | exact p2.1 | exact q2.1 | (refine (xup_n (by omega)).trans ?_; first | assumption | exact xup_s | exact p2.1 | exact q2.1) | (refine (xup_n (by omega)).trans ((xup_n (by omega)).trans ?_); first | assumption | exact xup_s | exact p2.1 | exact q2.1) | (refine (xup_n (by omega)).trans ((xup_n (by omega)).trans ((xup_n (by omega)).trans ?_)); first | assumption | exact xup_s | exact p2.1 | exact q2.1)) (by rfl) ?_
    refine xs_if 26 22 r_74_19 rfl (fun hl => ?_) (fun hl => ?_)
    · refine xs_f 27 r_74_26 rfl ?_
      refine xs_ret r_74_27 rfl ?_
      first | exact xq_b1 k (decide_eq_true (Int32.not_le.mp hl)) | exact xq_b0 k (decide_eq_false (Int32.not_lt.mpr hl))
    · refine xs_f 23 r_74_22 rfl ?_
      refine xs_f 27 r_74_23 rfl ?_
      refine xs_ret r_74_27 rfl ?_
      first | exact xq_b1 k (decide_eq_true (Int32.not_le.mp hl)) | exact xq_b0 k (decide_eq_false (Int32.not_lt.mpr hl))

/-- a question at a: its row of estimates behind it, the estimates behind that, in any order -/
def QAt (f : Nat → Option XE) (a : Nat) (num wt : Int32) (many : Nat) (E : Nat → XEst) (r : Nat → Nat) : Prop :=
  f a = some (.inr (7, [.ref (a + 1), .int num, .int wt, .int (nI many)])) ∧ many ≤ 5 ∧
  RA f 14 (a + 1) 5 (fun i => a + 2 + r i) ∧
  (∀ i, i < 5 → r i < 5) ∧ (∀ i j, i < 5 → j < 5 → r i = r j → i = j) ∧
  (∀ i, i < 5 → f (a + 2 + r i) = some (.inr (4, eL (E i))))
theorem QAt.fr {f g : Nat → Option XE} {a : Nat} {num wt : Int32} {many : Nat} {E : Nat → XEst} {r : Nat → Nat} (h : QAt f a num wt many E r) (e : ∀ c, a ≤ c → c < a + 7 → g c = f c) : QAt g a num wt many E r := by
  obtain ⟨h1, h2, h3, h5, h6, h7⟩ := h
  refine ⟨(e a (by omega) (by omega)).trans h1, h2, h3.fr (e (a + 1) (by omega) (by omega)), h5, h6, fun i hi => ?_⟩
  have := h5 i hi
  exact (e (a + 2 + r i) (by omega) (by omega)).trans (h7 i hi)
theorem QAt.est {f g : Nat → Option XE} {a : Nat} {num wt : Int32} {many : Nat} {E : Nat → XEst} {r : Nat → Nat} (h : QAt f a num wt many E r) {i : Nat} (hi : i < 5) {e : XEst} (hg : g (a + 2 + r i) = some (.inr (4, eL e))) (hF : Fr f g (a + 2 + r i) (a + 2 + r i + 1)) : QAt g a num wt many (xw E i e) r := by
  obtain ⟨q1, q2, q3, q5, q6, q7⟩ := h
  have := q5 i hi
  refine ⟨(hF a (by omega)).trans q1, q2, q3.fr (hF _ (by omega)), q5, q6, fun j hj => ?_⟩
  by_cases z : j = i
  · rw [z, xw_s]; exact hg
  · rw [xw_n z]
    have z2 : r j ≠ r i := fun e => z (q6 j i hj hi e)
    exact (hF _ (by omega)).trans (q7 j hj)
/-- the element at lo goes to hi, what lies between moves down -/
def rot {α : Type} (f : Nat → α) (lo hi : Nat) : Nat → α := fun i => if i < lo then f i else if i < hi then f (i + 1) else if i = hi then f lo else f i
def rotI (lo hi i : Nat) : Nat := if i < lo then i else if i < hi then i + 1 else if i = hi then lo else i
theorem rot_I {α : Type} (f : Nat → α) (lo hi i : Nat) : rot f lo hi i = f (rotI lo hi i) := by
  unfold rot rotI
  split
  · rfl
  · split
    · rfl
    · split <;> rfl
theorem rotI_lt {lo hi i n : Nat} (h1 : lo ≤ hi) (h2 : hi < n) (h : i < n) : rotI lo hi i < n := by
  unfold rotI
  split
  · exact h
  · split
    · omega
    · split <;> omega
theorem rotI_inj {lo hi i j : Nat} (h1 : lo ≤ hi) (e : rotI lo hi i = rotI lo hi j) : i = j := by
  unfold rotI at e
  split at e <;> split at e <;> (try split at e) <;> (try split at e) <;> (try split at e) <;> (try split at e) <;> omega
theorem l_78 {S : XSc} {d : Nat} {h : XH} {Q : XO → XH → Prop} {a : Nat} {num wt : Int32} {many : Nat} {E : Nat → XEst} {r : Nat → Nat} (hQ : QAt h.1 a num wt many E r) (h32 : 32 ≤ a) {p : Int32} (k1 : ∀ i, i < many → (E i).1 = p → (∀ j, j < i → (E j).1 ≠ p) → Q (.inl (some (.int (nI i)))) h) (k0 : (∀ j, j < many → (E j).1 ≠ p) → Q (.inl (some (.int (-1)))) h) : ∀ (m : Nat) (i : Nat), many - i < m → (i ≤ many) → (∀ j, j < i → (E j).1 ≠ p) → xP S d 78 2 [(0, .ref a), (1, .int p), (2, .int (nI i))] [] h Q := by
  intro m
  induction m with
  | zero => intro i hm; exact absurd hm (Nat.not_lt_zero _)
  | succ m ih =>
    intro i hm hi hj
    obtain ⟨q1, q2, q3, q5, q6, q7⟩ := id hQ
    refine xs_f 3 r_78_2 rfl ?_
    refine xs_f 4 r_78_3 rfl ?_
    refine xs_get 7 r_78_4 rfl rfl (by first | assumption | exact xup_s | exact (q7 _ (by omega)) | (refine (xup_n (by omega)).trans ?_; first | assumption | exact xup_s | exact (q7 _ (by omega))) | (refine (xup_n (by omega)).trans ((xup_n (by omega)).trans ?_); first | assumption | exact xup_s | exact (q7 _ (by omega))) | (refine (xup_n (by omega)).trans ((xup_n (by omega)).trans ((xup_n (by omega)).trans ?_)); first | assumption | exact xup_s | exact (q7 _ (by omega)))) (by rfl) ?_
    refine xs_if 31 10 r_78_7 rfl (fun hc1 => ?_) (fun hc1 => ?_)
    · have hc1 := (nI_leN rfl rfl (by omega) (by omega)).mp hc1
      refine xs_f 32 r_78_31 rfl ?_
      refine xs_ret r_78_32 rfl ?_
      exact k0 (fun j hjm => hj j (by omega))
    · have hc1 := mt (nI_leN rfl rfl (by omega) (by omega)).mpr hc1
      refine xs_f 11 r_78_10 rfl ?_
      refine xs_get 14 r_78_11 rfl rfl (by first | assumption | exact xup_s | exact (q7 _ (by omega)) | (refine (xup_n (by omega)).trans ?_; first | assumption | exact xup_s | exact (q7 _ (by omega))) | (refine (xup_n (by omega)).trans ((xup_n (by omega)).trans ?_); first | assumption | exact xup_s | exact (q7 _ (by omega))) | (refine (xup_n (by omega)).trans ((xup_n (by omega)).trans ((xup_n (by omega)).trans ?_)); first | assumption | exact xup_s | exact (q7 _ (by omega)))) (by rfl) ?_
      refine xs_f 15 r_78_14 rfl ?_
      refine xs_aldR 16 r_78_15 (fun _ _ => rfl) rfl rfl rfl (j := i) rfl (by first | assumption | (refine RA.fr ?_ (xup_n (by omega)); first | assumption) | (refine RA.fr (RA.fr ?_ (xup_n (by omega))) (xup_n (by omega)); first | assumption) | (refine RA.fr (RA.fr (RA.fr ?_ (xup_n (by omega))) (xup_n (by omega))) (xup_n (by omega)); first | assumption)) (by omega) ?_
      refine xs_get 19 r_78_16 rfl rfl (by first | assumption | exact xup_s | exact (q7 _ (by omega)) | (refine (xup_n (by omega)).trans ?_; first | assumption | exact xup_s | exact (q7 _ (by omega))) | (refine (xup_n (by omega)).trans ((xup_n (by omega)).trans ?_); first | assumption | exact xup_s | exact (q7 _ (by omega))) | (refine (xup_n (by omega)).trans ((xup_n (by omega)).trans ((xup_n (by omega)).trans ?_)); first | assumption | exact xup_s | exact (q7 _ (by omega)))) (by rfl) ?_
      refine xs_f 20 r_78_19 rfl ?_
      refine xs_if 23 25 r_78_20 rfl (fun he => ?_) (fun he => ?_)
      · refine xs_f 24 r_78_23 rfl ?_
        refine xs_ret r_78_24 rfl ?_
        exact k1 i (by omega) he hj
      · refine xs_f 28 (lv2 := [(2, _), (0, _), (1, _)]) r_78_25 rfl ?_
        refine xs_f 2 r_78_28 rfl ?_
        exact xP_lv [(0, .ref a), (1, .int p), (2, .int (nI (i + 1)))] rfl ⟨rfl, rfl, (by rw [nI_succ]; rfl), trivial⟩ (ih (i + 1) (by omega) (by omega) (fun j hj2 => by
          rcases Nat.lt_or_ge j i with z | z
          · exact hj j z
          · rw [show j = i by omega]; exact he))

theorem c_78 {S : XSc} {d : Nat} {h : XH} {Q : XO → XH → Prop} {a : Nat} {num wt : Int32} {many : Nat} {E : Nat → XEst} {r : Nat → Nat} (hQ : QAt h.1 a num wt many E r) (h32 : 32 ≤ a) {p : Int32} (k1 : ∀ i, i < many → (E i).1 = p → (∀ j, j < i → (E j).1 ≠ p) → Q (.inl (some (.int (nI i)))) h) (k0 : (∀ j, j < many → (E j).1 ≠ p) → Q (.inl (some (.int (-1)))) h) : xP S d 78 0 [(0, .ref a), (1, .int p)] [] h Q := by
  refine xs_f 1 r_78_0 rfl ?_
  refine xs_f 2 (lv2 := [(2, _), (0, _), (1, _)]) r_78_1 rfl ?_
  exact xP_lv [(0, .ref a), (1, .int p), (2, .int (nI 0))] rfl ⟨rfl, rfl, rfl, trivial⟩ (l_78 hQ h32 k1 k0 (many + 1) 0 (by omega) (by omega) (fun j hj => absurd hj (Nat.not_lt_zero _)))

theorem c_76 {S : XSc} {d : Nat} {h : XH} {Q : XO → XH → Prop} {a : Nat} {num wt : Int32} {many : Nat} {E : Nat → XEst} {r : Nat → Nat} (hQ : QAt h.1 a num wt many E r) (h32 : 32 ≤ a) {nu w : Int32} (k : ∀ f, QAt f a nu w 0 E r → Fr h.1 f a (a + 1) → Q (.inl none) (f, h.2)) : xP S d 76 0 [(0, .ref a), (1, .int nu), (2, .int w)] [] h Q := by
  obtain ⟨q1, q2, q3, q5, q6, q7⟩ := id hQ
  refine xs_f 1 r_76_0 rfl ?_
  refine xs_f 2 r_76_1 rfl ?_
  refine xs_put 5 r_76_2 rfl (by first | assumption | exact xup_s | (refine (xup_n (by omega)).trans ?_; first | assumption | exact xup_s) | (refine (xup_n (by omega)).trans ((xup_n (by omega)).trans ?_); first | assumption | exact xup_s) | (refine (xup_n (by omega)).trans ((xup_n (by omega)).trans ((xup_n (by omega)).trans ?_)); first | assumption | exact xup_s)) (by rfl) (by rfl) ?_
  refine xs_f 6 r_76_5 rfl ?_
  refine xs_f 7 r_76_6 rfl ?_
  refine xs_put 10 r_76_7 rfl (by first | assumption | exact xup_s | (refine (xup_n (by omega)).trans ?_; first | assumption | exact xup_s) | (refine (xup_n (by omega)).trans ((xup_n (by omega)).trans ?_); first | assumption | exact xup_s) | (refine (xup_n (by omega)).trans ((xup_n (by omega)).trans ((xup_n (by omega)).trans ?_)); first | assumption | exact xup_s)) (by rfl) (by rfl) ?_
  refine xs_f 11 r_76_10 rfl ?_
  refine xs_f 12 r_76_11 rfl ?_
  refine xs_put 15 r_76_12 rfl (by first | assumption | exact xup_s | (refine (xup_n (by omega)).trans ?_; first | assumption | exact xup_s) | (refine (xup_n (by omega)).trans ((xup_n (by omega)).trans ?_); first | assumption | exact xup_s) | (refine (xup_n (by omega)).trans ((xup_n (by omega)).trans ((xup_n (by omega)).trans ?_)); first | assumption | exact xup_s)) (by rfl) (by rfl) ?_
  refine xs_ret r_76_15 rfl ?_
  exact k _ ⟨xup_s, by omega, q3.fr ((xup_n (by omega)).trans ((xup_n (by omega)).trans (xup_n (by omega)))), q5, q6, fun i hi => ((xup_n (by omega)).trans ((xup_n (by omega)).trans (xup_n (by omega)))).trans (q7 i hi)⟩ (((Fr.up (by omega) (by omega)).tr (Fr.up (by omega) (by omega))).tr (Fr.up (by omega) (by omega)))

theorem c_79 {S : XSc} {d : Nat} {h : XH} {Q : XO → XH → Prop} {a : Nat} {num wt : Int32} {many : Nat} {E : Nat → XEst} {r : Nat → Nat} (hQ : QAt h.1 a num wt many E r) (h32 : 32 ≤ a) (hm : many < 5) {p lo hi c sk : Int32} (k : ∀ f, QAt f a num wt (many + 1) (xw E many (p, (lo, (hi, (c, sk))))) r → Fr h.1 f a (a + 7) → Q (.inl none) (f, h.2)) : xP S (d + 1) 79 0 [(0, .ref a), (1, .int p), (2, .int lo), (3, .int hi), (4, .int c), (5, .int sk)] [] h Q := by
  obtain ⟨q1, q2, q3, q5, q6, q7⟩ := id hQ
  have z9 := q5 many hm
  refine xs_f 1 r_79_0 rfl ?_
  refine xs_get 4 r_79_1 rfl rfl (by first | assumption | exact xup_s | exact e1 | exact (q7 _ hm) | (refine (xup_n (by omega)).trans ?_; first | assumption | exact xup_s | exact e1 | exact (q7 _ hm)) | (refine (xup_n (by omega)).trans ((xup_n (by omega)).trans ?_); first | assumption | exact xup_s | exact e1 | exact (q7 _ hm)) | (refine (xup_n (by omega)).trans ((xup_n (by omega)).trans ((xup_n (by omega)).trans ?_)); first | assumption | exact xup_s | exact e1 | exact (q7 _ hm))) (by rfl) ?_
  refine xs_f 5 r_79_4 rfl ?_
  refine xs_if 37 8 r_79_5 rfl (fun hc1 => ?_) (fun hc1 => ?_)
  · have hc1 := (nI_leN (nI_k 5) rfl (by omega) (by omega)).mp hc1
    omega
  · have hc1 := mt (nI_leN (nI_k 5) rfl (by omega) (by omega)).mpr hc1
    refine xs_f 9 r_79_8 rfl ?_
    refine xs_get 12 r_79_9 rfl rfl (by first | assumption | exact xup_s | exact e1 | exact (q7 _ hm) | (refine (xup_n (by omega)).trans ?_; first | assumption | exact xup_s | exact e1 | exact (q7 _ hm)) | (refine (xup_n (by omega)).trans ((xup_n (by omega)).trans ?_); first | assumption | exact xup_s | exact e1 | exact (q7 _ hm)) | (refine (xup_n (by omega)).trans ((xup_n (by omega)).trans ((xup_n (by omega)).trans ?_)); first | assumption | exact xup_s | exact e1 | exact (q7 _ hm))) (by rfl) ?_
    refine xs_f 13 r_79_12 rfl ?_
    refine xs_get 16 r_79_13 rfl rfl (by first | assumption | exact xup_s | exact e1 | exact (q7 _ hm) | (refine (xup_n (by omega)).trans ?_; first | assumption | exact xup_s | exact e1 | exact (q7 _ hm)) | (refine (xup_n (by omega)).trans ((xup_n (by omega)).trans ?_); first | assumption | exact xup_s | exact e1 | exact (q7 _ hm)) | (refine (xup_n (by omega)).trans ((xup_n (by omega)).trans ((xup_n (by omega)).trans ?_)); first | assumption | exact xup_s | exact e1 | exact (q7 _ hm))) (by rfl) ?_
    refine xs_aldR 17 r_79_16 (fun _ _ => rfl) rfl rfl rfl (j := many) rfl (by first | assumption | (refine RA.fr ?_ (xup_n (by omega)); first | assumption) | (refine RA.fr (RA.fr ?_ (xup_n (by omega))) (xup_n (by omega)); first | assumption) | (refine RA.fr (RA.fr (RA.fr ?_ (xup_n (by omega))) (xup_n (by omega))) (xup_n (by omega)); first | assumption)) (by omega) ?_
    refine xs_f 18 r_79_17 rfl ?_
    refine xs_f 19 r_79_18 rfl ?_
    refine xs_f 20 r_79_19 rfl ?_
    refine xs_f 22 r_79_20 rfl ?_
    refine xs_f 24 r_79_22 rfl ?_
    refine xs_call (lv2 := [(0, _), (1, _), (2, _), (3, _), (4, _), (5, _)]) r_79_24 rfl rfl (by decide) (xcan_0 rfl rfl (by first | assumption | exact xup_s | exact e1 | exact (q7 _ hm) | (refine (xup_n (by omega)).trans ?_; first | assumption | exact xup_s | exact e1 | exact (q7 _ hm)) | (refine (xup_n (by omega)).trans ((xup_n (by omega)).trans ?_); first | assumption | exact xup_s | exact e1 | exact (q7 _ hm)) | (refine (xup_n (by omega)).trans ((xup_n (by omega)).trans ((xup_n (by omega)).trans ?_)); first | assumption | exact xup_s | exact e1 | exact (q7 _ hm))) (by rfl)) rfl (c_58 (q7 many hm) (fun f1 x1 y1 => ?_))
    refine xK_0 rfl ?_
    have hQ1 := hQ.est hm x1 y1
    obtain ⟨e1, e2, e3, e5, e6, e7⟩ := id hQ1
    refine xs_f 28 r_79_27 rfl ?_
    refine xs_f 29 r_79_28 rfl ?_
    refine xs_get 32 r_79_29 rfl rfl (by first | assumption | exact xup_s | exact e1 | exact (q7 _ hm) | (refine (xup_n (by omega)).trans ?_; first | assumption | exact xup_s | exact e1 | exact (q7 _ hm)) | (refine (xup_n (by omega)).trans ((xup_n (by omega)).trans ?_); first | assumption | exact xup_s | exact e1 | exact (q7 _ hm)) | (refine (xup_n (by omega)).trans ((xup_n (by omega)).trans ((xup_n (by omega)).trans ?_)); first | assumption | exact xup_s | exact e1 | exact (q7 _ hm))) (by rfl) ?_
    refine xs_f 33 r_79_32 rfl ?_
    refine xs_f 34 r_79_33 rfl ?_
    refine xs_putC 37 r_79_34 rfl (by first | assumption | exact xup_s | exact e1 | exact (q7 _ hm) | (refine (xup_n (by omega)).trans ?_; first | assumption | exact xup_s | exact e1 | exact (q7 _ hm)) | (refine (xup_n (by omega)).trans ((xup_n (by omega)).trans ?_); first | assumption | exact xup_s | exact e1 | exact (q7 _ hm)) | (refine (xup_n (by omega)).trans ((xup_n (by omega)).trans ((xup_n (by omega)).trans ?_)); first | assumption | exact xup_s | exact e1 | exact (q7 _ hm))) (by rfl) (by rfl) (fun f2 x2 y2 => ?_)
    refine xs_ret r_79_37 rfl ?_
    exact k f2 ⟨x2.trans (by rw [nI_succ]; rfl), by omega, e3.fr (y2 _ (by omega)), e5, e6, fun i hi => (y2 _ (by omega)).trans (e7 i hi)⟩ ((y1.wd (by omega) (by omega)).tr (y2.wd (by omega) (by omega)))

theorem l_82 {S : XSc} {d : Nat} {h : XH} {Q : XO → XH → Prop} {a : Nat} {num wt : Int32} {many : Nat} {E : Nat → XEst} {r : Nat → Nat} (hQ : QAt h.1 a num wt many E r) (h32 : 32 ≤ a) (k : Q (.inl (some (.int (xsum (fun i => (E i).2.2.2.2) many)))) h) : ∀ (m : Nat) (i : Nat), many - i < m → (i ≤ many) → xP S d 82 4 [(0, .ref a), (1, .int (xsum (fun i => (E i).2.2.2.2) i)), (2, .int (nI i))] [] h Q := by
  intro m
  induction m with
  | zero => intro i hm; exact absurd hm (Nat.not_lt_zero _)
  | succ m ih =>
    intro i hm hi
    obtain ⟨q1, q2, q3, q5, q6, q7⟩ := id hQ
    refine xs_f 5 r_82_4 rfl ?_
    refine xs_f 6 r_82_5 rfl ?_
    refine xs_get 9 r_82_6 rfl rfl (by first | assumption | exact xup_s | exact (q7 _ (by omega)) | (refine (xup_n (by omega)).trans ?_; first | assumption | exact xup_s | exact (q7 _ (by omega))) | (refine (xup_n (by omega)).trans ((xup_n (by omega)).trans ?_); first | assumption | exact xup_s | exact (q7 _ (by omega))) | (refine (xup_n (by omega)).trans ((xup_n (by omega)).trans ((xup_n (by omega)).trans ?_)); first | assumption | exact xup_s | exact (q7 _ (by omega)))) (by rfl) ?_
    refine xs_if 30 12 r_82_9 rfl (fun hc1 => ?_) (fun hc1 => ?_)
    · have hc1 := (nI_leN rfl rfl (by omega) (by omega)).mp hc1
      refine xs_f 31 r_82_30 rfl ?_
      refine xs_ret r_82_31 rfl ?_
      have e : i = many := by omega
      subst e
      exact k
    · have hc1 := mt (nI_leN rfl rfl (by omega) (by omega)).mpr hc1
      refine xs_f 13 r_82_12 rfl ?_
      refine xs_f 14 r_82_13 rfl ?_
      refine xs_get 17 r_82_14 rfl rfl (by first | assumption | exact xup_s | exact (q7 _ (by omega)) | (refine (xup_n (by omega)).trans ?_; first | assumption | exact xup_s | exact (q7 _ (by omega))) | (refine (xup_n (by omega)).trans ((xup_n (by omega)).trans ?_); first | assumption | exact xup_s | exact (q7 _ (by omega))) | (refine (xup_n (by omega)).trans ((xup_n (by omega)).trans ((xup_n (by omega)).trans ?_)); first | assumption | exact xup_s | exact (q7 _ (by omega)))) (by rfl) ?_
      refine xs_f 18 r_82_17 rfl ?_
      refine xs_aldR 19 r_82_18 (fun _ _ => rfl) rfl rfl rfl (j := i) rfl (by first | assumption | (refine RA.fr ?_ (xup_n (by omega)); first | assumption) | (refine RA.fr (RA.fr ?_ (xup_n (by omega))) (xup_n (by omega)); first | assumption) | (refine RA.fr (RA.fr (RA.fr ?_ (xup_n (by omega))) (xup_n (by omega))) (xup_n (by omega)); first | assumption)) (by omega) ?_
      refine xs_get 22 r_82_19 rfl rfl (by first | assumption | exact xup_s | exact (q7 _ (by omega)) | (refine (xup_n (by omega)).trans ?_; first | assumption | exact xup_s | exact (q7 _ (by omega))) | (refine (xup_n (by omega)).trans ((xup_n (by omega)).trans ?_); first | assumption | exact xup_s | exact (q7 _ (by omega))) | (refine (xup_n (by omega)).trans ((xup_n (by omega)).trans ((xup_n (by omega)).trans ?_)); first | assumption | exact xup_s | exact (q7 _ (by omega)))) (by rfl) ?_
      refine xs_f 23 r_82_22 rfl ?_
      refine xs_f 24 (lv2 := [(1, _), (0, _), (2, _)]) r_82_23 rfl ?_
      refine xs_f 27 (lv2 := [(2, _), (1, _), (0, _)]) r_82_24 rfl ?_
      refine xs_f 4 r_82_27 rfl ?_
      exact xP_lv [(0, .ref a), (1, .int (xsum (fun i => (E i).2.2.2.2) (i + 1))), (2, .int (nI (i + 1)))] rfl ⟨rfl, rfl, (by rw [nI_succ]; rfl), trivial⟩ (ih (i + 1) (by omega) (by omega))

theorem c_82 {S : XSc} {d : Nat} {h : XH} {Q : XO → XH → Prop} {a : Nat} {num wt : Int32} {many : Nat} {E : Nat → XEst} {r : Nat → Nat} (hQ : QAt h.1 a num wt many E r) (h32 : 32 ≤ a) (k : Q (.inl (some (.int (xsum (fun i => (E i).2.2.2.2) many)))) h) : xP S d 82 0 [(0, .ref a)] [] h Q := by
  refine xs_f 1 r_82_0 rfl ?_
  refine xs_f 2 (lv2 := [(1, _), (0, _)]) r_82_1 rfl ?_
  refine xs_f 3 r_82_2 rfl ?_
  refine xs_f 4 (lv2 := [(2, _), (1, _), (0, _)]) r_82_3 rfl ?_
  exact xP_lv [(0, .ref a), (1, .int (xsum (fun i => (E i).2.2.2.2) 0)), (2, .int (nI 0))] rfl ⟨rfl, rfl, rfl, trivial⟩ (l_82 hQ h32 k (many + 1) 0 (by omega) (by omega))

/-- how many of the first n cover the value -/
def xcov (E : Nat → XEst) (v : Int32) : Nat → Nat
  | 0 => 0
  | n + 1 => if (E n).2.1 ≤ v ∧ v ≤ (E n).2.2.1 then xcov E v n + 1 else xcov E v n
theorem xcov_le (E : Nat → XEst) (v : Int32) : ∀ n, xcov E v n ≤ n
  | 0 => Nat.le_refl _
  | n + 1 => by
    have := xcov_le E v n
    unfold xcov
    split <;> omega
theorem l_81 {S : XSc} {d : Nat} {h : XH} {Q : XO → XH → Prop} {a : Nat} {num wt : Int32} {many : Nat} {E : Nat → XEst} {r : Nat → Nat} (hQ : QAt h.1 a num wt many E r) (h32 : 32 ≤ a) {v : Int32} (k : Q (.inl (some (.int (nI (xcov E v many))))) h) : ∀ (m : Nat) (i : Nat), many - i < m → (i ≤ many) → xP S (d + 1) 81 4 [(0, .ref a), (1, .int v), (2, .int (nI (xcov E v i))), (3, .int (nI i))] [] h Q := by
  intro m
  induction m with
  | zero => intro i hm; exact absurd hm (Nat.not_lt_zero _)
  | succ m ih =>
    intro i hm hi
    obtain ⟨q1, q2, q3, q5, q6, q7⟩ := id hQ
    refine xs_f 5 r_81_4 rfl ?_
    refine xs_f 6 r_81_5 rfl ?_
    refine xs_get 9 r_81_6 rfl rfl (by first | assumption | exact xup_s | exact (q7 _ (by omega)) | (refine (xup_n (by omega)).trans ?_; first | assumption | exact xup_s | exact (q7 _ (by omega))) | (refine (xup_n (by omega)).trans ((xup_n (by omega)).trans ?_); first | assumption | exact xup_s | exact (q7 _ (by omega))) | (refine (xup_n (by omega)).trans ((xup_n (by omega)).trans ((xup_n (by omega)).trans ?_)); first | assumption | exact xup_s | exact (q7 _ (by omega)))) (by rfl) ?_
    refine xs_if 34 12 r_81_9 rfl (fun hc1 => ?_) (fun hc1 => ?_)
    · have hc1 := (nI_leN rfl rfl (by omega) (by omega)).mp hc1
      refine xs_f 35 r_81_34 rfl ?_
      refine xs_ret r_81_35 rfl ?_
      have e : i = many := by omega
      subst e
      exact k
    · have hc1 := mt (nI_leN rfl rfl (by omega) (by omega)).mpr hc1
      refine xs_f 13 r_81_12 rfl ?_
      refine xs_get 16 r_81_13 rfl rfl (by first | assumption | exact xup_s | exact (q7 _ (by omega)) | (refine (xup_n (by omega)).trans ?_; first | assumption | exact xup_s | exact (q7 _ (by omega))) | (refine (xup_n (by omega)).trans ((xup_n (by omega)).trans ?_); first | assumption | exact xup_s | exact (q7 _ (by omega))) | (refine (xup_n (by omega)).trans ((xup_n (by omega)).trans ((xup_n (by omega)).trans ?_)); first | assumption | exact xup_s | exact (q7 _ (by omega)))) (by rfl) ?_
      refine xs_f 17 r_81_16 rfl ?_
      refine xs_aldR 18 r_81_17 (fun _ _ => rfl) rfl rfl rfl (j := i) rfl (by first | assumption | (refine RA.fr ?_ (xup_n (by omega)); first | assumption) | (refine RA.fr (RA.fr ?_ (xup_n (by omega))) (xup_n (by omega)); first | assumption) | (refine RA.fr (RA.fr (RA.fr ?_ (xup_n (by omega))) (xup_n (by omega))) (xup_n (by omega)); first | assumption)) (by omega) ?_
      refine xs_f 19 r_81_18 rfl ?_
      refine xs_call (lv2 := [(0, _), (1, _)]) r_81_19 rfl rfl (by decide) (xcan_0 rfl rfl (by first | assumption | exact xup_s | exact (q7 _ (by omega)) | (refine (xup_n (by omega)).trans ?_; first | assumption | exact xup_s | exact (q7 _ (by omega))) | (refine (xup_n (by omega)).trans ((xup_n (by omega)).trans ?_); first | assumption | exact xup_s | exact (q7 _ (by omega))) | (refine (xup_n (by omega)).trans ((xup_n (by omega)).trans ((xup_n (by omega)).trans ?_)); first | assumption | exact xup_s | exact (q7 _ (by omega)))) (by rfl)) rfl (c_60 (q7 i (by omega)) (fun hb => ?_) (fun hb => ?_))
      · refine xK_v rfl ?_
        refine xs_f 25 r_81_22 rfl ?_
        refine xs_f 28 (lv2 := [(2, _), (0, _), (1, _), (3, _)]) r_81_25 rfl ?_
        refine xs_f 31 (lv2 := [(3, _), (2, _), (0, _), (1, _)]) r_81_28 rfl ?_
        refine xs_f 4 r_81_31 rfl ?_
        first
          | exact xP_lv [(0, .ref a), (1, .int v), (2, .int (nI (xcov E v (i + 1)))), (3, .int (nI (i + 1)))] rfl ⟨rfl, rfl, (by rw [show xcov E v (i + 1) = xcov E v i + 1 from if_pos hb, nI_succ]; rfl), (by rw [nI_succ]; rfl), trivial⟩ (ih (i + 1) (by omega) (by omega))
          | exact xP_lv [(0, .ref a), (1, .int v), (2, .int (nI (xcov E v (i + 1)))), (3, .int (nI (i + 1)))] rfl ⟨rfl, rfl, (by rw [show xcov E v (i + 1) = xcov E v i from if_neg hb]; rfl), (by rw [nI_succ]; rfl), trivial⟩ (ih (i + 1) (by omega) (by omega))
      · refine xK_v rfl ?_
        refine xs_f 28 r_81_22 rfl ?_
        refine xs_f 31 (lv2 := [(3, _), (0, _), (1, _), (2, _)]) r_81_28 rfl ?_
        refine xs_f 4 r_81_31 rfl ?_
        first
          | exact xP_lv [(0, .ref a), (1, .int v), (2, .int (nI (xcov E v (i + 1)))), (3, .int (nI (i + 1)))] rfl ⟨rfl, rfl, (by rw [show xcov E v (i + 1) = xcov E v i + 1 from if_pos hb, nI_succ]; rfl), (by rw [nI_succ]; rfl), trivial⟩ (ih (i + 1) (by omega) (by omega))
          | exact xP_lv [(0, .ref a), (1, .int v), (2, .int (nI (xcov E v (i + 1)))), (3, .int (nI (i + 1)))] rfl ⟨rfl, rfl, (by rw [show xcov E v (i + 1) = xcov E v i from if_neg hb]; rfl), (by rw [nI_succ]; rfl), trivial⟩ (ih (i + 1) (by omega) (by omega))

theorem c_81 {S : XSc} {d : Nat} {h : XH} {Q : XO → XH → Prop} {a : Nat} {num wt : Int32} {many : Nat} {E : Nat → XEst} {r : Nat → Nat} (hQ : QAt h.1 a num wt many E r) (h32 : 32 ≤ a) {v : Int32} (k : Q (.inl (some (.int (nI (xcov E v many))))) h) : xP S (d + 1) 81 0 [(0, .ref a), (1, .int v)] [] h Q := by
  refine xs_f 1 r_81_0 rfl ?_
  refine xs_f 2 (lv2 := [(2, _), (0, _), (1, _)]) r_81_1 rfl ?_
  refine xs_f 3 r_81_2 rfl ?_
  refine xs_f 4 (lv2 := [(3, _), (2, _), (0, _), (1, _)]) r_81_3 rfl ?_
  exact xP_lv [(0, .ref a), (1, .int v), (2, .int (nI (xcov E v 0))), (3, .int (nI 0))] rfl ⟨rfl, rfl, rfl, rfl, trivial⟩ (l_81 hQ h32 k (many + 1) 0 (by omega) (by omega))

theorem l_77 {S : XSc} {d : Nat} {h : XH} {Q : XO → XH → Prop} {a : Nat} {r : Nat → Nat} {b : Nat} {nu w : Int32} {many2 : Nat} {E2 : Nat → XEst} {r2 : Nat → Nat} (hR : QAt h.1 b nu w many2 E2 r2) (h32 : 32 ≤ a) (h33 : 32 ≤ b) (hab : a + 7 ≤ b ∨ b + 7 ≤ a) (k : ∀ f E3, QAt f a nu w many2 E3 r → (∀ i, i < many2 → E3 i = E2 i) → Fr h.1 f a (a + 7) → Q (.inl none) (f, h.2)) : ∀ (m : Nat) (i : Nat) (f : Nat → Option XE) (E3 : Nat → XEst), many2 - i < m → (i ≤ many2) → (QAt f a nu w many2 E3 r) → (∀ j, j < i → E3 j = E2 j) → (Fr h.1 f a (a + 7)) → xP S (d + 2) 77 22 [(0, .ref a), (1, .ref b), (2, .int (nI i))] [] (f, h.2) Q := by
  intro m
  induction m with
  | zero => intro i f E3 hm; exact absurd hm (Nat.not_lt_zero _)
  | succ m ih =>
    intro i f E3 hm hi hQ hE hF
    obtain ⟨q1, q2, q3, q5, q6, q7⟩ := id hQ
    obtain ⟨u1, u2, u3, u5, u6, u7⟩ := hR.fr (g := f) (fun c z1 z2 => hF c (by omega))
    refine xs_f 23 r_77_22 rfl ?_
    refine xs_f 24 r_77_23 rfl ?_
    refine xs_get 27 r_77_24 rfl rfl (by first | assumption | exact xup_s | exact (q7 _ (by omega)) | (refine (xup_n (by omega)).trans ?_; first | assumption | exact xup_s | exact (q7 _ (by omega))) | (refine (xup_n (by omega)).trans ((xup_n (by omega)).trans ?_); first | assumption | exact xup_s | exact (q7 _ (by omega))) | (refine (xup_n (by omega)).trans ((xup_n (by omega)).trans ((xup_n (by omega)).trans ?_)); first | assumption | exact xup_s | exact (q7 _ (by omega)))) (by rfl) ?_
    refine xs_if 51 30 r_77_27 rfl (fun hc1 => ?_) (fun hc1 => ?_)
    · have hc1 := (nI_leN rfl rfl (by omega) (by omega)).mp hc1
      refine xs_ret r_77_51 rfl ?_
      exact k f E3 hQ (fun j hj => hE j (by omega)) hF
    · have hc1 := mt (nI_leN rfl rfl (by omega) (by omega)).mpr hc1
      refine xs_f 31 r_77_30 rfl ?_
      refine xs_get 34 r_77_31 rfl rfl (by first | assumption | exact xup_s | exact (q7 _ (by omega)) | (refine (xup_n (by omega)).trans ?_; first | assumption | exact xup_s | exact (q7 _ (by omega))) | (refine (xup_n (by omega)).trans ((xup_n (by omega)).trans ?_); first | assumption | exact xup_s | exact (q7 _ (by omega))) | (refine (xup_n (by omega)).trans ((xup_n (by omega)).trans ((xup_n (by omega)).trans ?_)); first | assumption | exact xup_s | exact (q7 _ (by omega)))) (by rfl) ?_
      refine xs_f 35 r_77_34 rfl ?_
      refine xs_aldR 36 r_77_35 (fun _ _ => rfl) rfl rfl rfl (j := i) rfl (by first | assumption | (refine RA.fr ?_ (xup_n (by omega)); first | assumption) | (refine RA.fr (RA.fr ?_ (xup_n (by omega))) (xup_n (by omega)); first | assumption) | (refine RA.fr (RA.fr (RA.fr ?_ (xup_n (by omega))) (xup_n (by omega))) (xup_n (by omega)); first | assumption)) (by omega) ?_
      refine xs_f 37 r_77_36 rfl ?_
      refine xs_get 40 r_77_37 rfl rfl (by first | assumption | exact xup_s | exact (q7 _ (by omega)) | (refine (xup_n (by omega)).trans ?_; first | assumption | exact xup_s | exact (q7 _ (by omega))) | (refine (xup_n (by omega)).trans ((xup_n (by omega)).trans ?_); first | assumption | exact xup_s | exact (q7 _ (by omega))) | (refine (xup_n (by omega)).trans ((xup_n (by omega)).trans ((xup_n (by omega)).trans ?_)); first | assumption | exact xup_s | exact (q7 _ (by omega)))) (by rfl) ?_
      refine xs_f 41 r_77_40 rfl ?_
      refine xs_aldR 42 r_77_41 (fun _ _ => rfl) rfl rfl rfl (j := i) rfl (by first | assumption | (refine RA.fr ?_ (xup_n (by omega)); first | assumption) | (refine RA.fr (RA.fr ?_ (xup_n (by omega))) (xup_n (by omega)); first | assumption) | (refine RA.fr (RA.fr (RA.fr ?_ (xup_n (by omega))) (xup_n (by omega))) (xup_n (by omega)); first | assumption)) (by omega) ?_
      refine xs_call (lv2 := [(0, _), (1, _)]) r_77_42 rfl rfl (by decide) (xcan_0 rfl rfl (by first | assumption | exact xup_s | exact (q7 _ (by omega)) | (refine (xup_n (by omega)).trans ?_; first | assumption | exact xup_s | exact (q7 _ (by omega))) | (refine (xup_n (by omega)).trans ((xup_n (by omega)).trans ?_); first | assumption | exact xup_s | exact (q7 _ (by omega))) | (refine (xup_n (by omega)).trans ((xup_n (by omega)).trans ((xup_n (by omega)).trans ?_)); first | assumption | exact xup_s | exact (q7 _ (by omega)))) (by rfl)) rfl (c_59 (q7 i (by omega)) (u7 i (by omega)) (fun f2 x2 y2 => ?_))
      refine xK_0 rfl ?_
      refine xs_f 48 (lv2 := [(2, _), (0, _), (1, _)]) r_77_45 rfl ?_
      refine xs_f 22 r_77_48 rfl ?_
      exact xP_lv [(0, .ref a), (1, .ref b), (2, .int (nI (i + 1)))] rfl ⟨rfl, rfl, (by rw [nI_succ]; rfl), trivial⟩ (ih (i + 1) f2 (xw E3 i (E2 i)) (by omega) (by omega) ⟨(y2 a (by have := q5 i (by omega); omega)).trans q1, q2, q3.fr (y2 _ (by have := q5 i (by omega); omega)), q5, q6, fun j hj => by
        by_cases z : j = i
        · rw [z, xw_s]; exact x2
        · rw [xw_n z]
          refine (y2 _ ?_).trans (q7 j hj)
          have z2 : r j ≠ r i := fun e => z (q6 j i hj (by omega) e)
          omega⟩ (fun j hj => by
        by_cases z : j = i
        · rw [z, xw_s]
        · rw [xw_n z]; exact hE j (by omega)) (hF.tr (y2.wd (by omega) (by have := q5 i (by omega); omega))))

theorem c_77 {S : XSc} {d : Nat} {h : XH} {Q : XO → XH → Prop} {a : Nat} {num wt : Int32} {many : Nat} {E : Nat → XEst} {r : Nat → Nat} {b : Nat} {nu w : Int32} {many2 : Nat} {E2 : Nat → XEst} {r2 : Nat → Nat} (hQ : QAt h.1 a num wt many E r) (hR : QAt h.1 b nu w many2 E2 r2) (h32 : 32 ≤ a) (h33 : 32 ≤ b) (hab : a + 7 ≤ b ∨ b + 7 ≤ a) (k : ∀ f E3, QAt f a nu w many2 E3 r → (∀ i, i < many2 → E3 i = E2 i) → Fr h.1 f a (a + 7) → Q (.inl none) (f, h.2)) : xP S (d + 2) 77 0 [(0, .ref a), (1, .ref b)] [] h Q := by
  obtain ⟨u1, u2, u3, u5, u6, u7⟩ := id hR
  have q1 := hQ.1
  refine xs_f 1 r_77_0 rfl ?_
  refine xs_f 2 r_77_1 rfl ?_
  refine xs_get 5 r_77_2 rfl rfl (by first | assumption | exact xup_s | exact x1.1 | exact ((y1 b (by omega)).trans u1) | (refine (xup_n (by omega)).trans ?_; first | assumption | exact xup_s | exact x1.1 | exact ((y1 b (by omega)).trans u1)) | (refine (xup_n (by omega)).trans ((xup_n (by omega)).trans ?_); first | assumption | exact xup_s | exact x1.1 | exact ((y1 b (by omega)).trans u1)) | (refine (xup_n (by omega)).trans ((xup_n (by omega)).trans ((xup_n (by omega)).trans ?_)); first | assumption | exact xup_s | exact x1.1 | exact ((y1 b (by omega)).trans u1))) (by rfl) ?_
  refine xs_f 6 r_77_5 rfl ?_
  refine xs_get 9 r_77_6 rfl rfl (by first | assumption | exact xup_s | exact x1.1 | exact ((y1 b (by omega)).trans u1) | (refine (xup_n (by omega)).trans ?_; first | assumption | exact xup_s | exact x1.1 | exact ((y1 b (by omega)).trans u1)) | (refine (xup_n (by omega)).trans ((xup_n (by omega)).trans ?_); first | assumption | exact xup_s | exact x1.1 | exact ((y1 b (by omega)).trans u1)) | (refine (xup_n (by omega)).trans ((xup_n (by omega)).trans ((xup_n (by omega)).trans ?_)); first | assumption | exact xup_s | exact x1.1 | exact ((y1 b (by omega)).trans u1))) (by rfl) ?_
  refine xs_call (lv2 := [(0, _), (1, _), (2, _)]) r_77_9 rfl rfl (by decide) (xcan_0 rfl rfl (by first | assumption | exact xup_s | exact x1.1 | exact ((y1 b (by omega)).trans u1) | (refine (xup_n (by omega)).trans ?_; first | assumption | exact xup_s | exact x1.1 | exact ((y1 b (by omega)).trans u1)) | (refine (xup_n (by omega)).trans ((xup_n (by omega)).trans ?_); first | assumption | exact xup_s | exact x1.1 | exact ((y1 b (by omega)).trans u1)) | (refine (xup_n (by omega)).trans ((xup_n (by omega)).trans ((xup_n (by omega)).trans ?_)); first | assumption | exact xup_s | exact x1.1 | exact ((y1 b (by omega)).trans u1))) (by rfl)) rfl (c_76 hQ (by omega) (fun f1 x1 y1 => ?_))
  refine xK_0 rfl ?_
  refine xs_f 13 r_77_12 rfl ?_
  refine xs_f 14 r_77_13 rfl ?_
  refine xs_get 17 r_77_14 rfl rfl (by first | assumption | exact xup_s | exact x1.1 | exact ((y1 b (by omega)).trans u1) | (refine (xup_n (by omega)).trans ?_; first | assumption | exact xup_s | exact x1.1 | exact ((y1 b (by omega)).trans u1)) | (refine (xup_n (by omega)).trans ((xup_n (by omega)).trans ?_); first | assumption | exact xup_s | exact x1.1 | exact ((y1 b (by omega)).trans u1)) | (refine (xup_n (by omega)).trans ((xup_n (by omega)).trans ((xup_n (by omega)).trans ?_)); first | assumption | exact xup_s | exact x1.1 | exact ((y1 b (by omega)).trans u1))) (by rfl) ?_
  refine xs_putC 20 r_77_17 rfl (by first | assumption | exact xup_s | exact x1.1 | exact ((y1 b (by omega)).trans u1) | (refine (xup_n (by omega)).trans ?_; first | assumption | exact xup_s | exact x1.1 | exact ((y1 b (by omega)).trans u1)) | (refine (xup_n (by omega)).trans ((xup_n (by omega)).trans ?_); first | assumption | exact xup_s | exact x1.1 | exact ((y1 b (by omega)).trans u1)) | (refine (xup_n (by omega)).trans ((xup_n (by omega)).trans ((xup_n (by omega)).trans ?_)); first | assumption | exact xup_s | exact x1.1 | exact ((y1 b (by omega)).trans u1))) (by rfl) (by rfl) (fun f2 x2 y2 => ?_)
  refine xs_f 21 r_77_20 rfl ?_
  refine xs_f 22 (lv2 := [(2, _), (0, _), (1, _)]) r_77_21 rfl ?_
  exact xP_lv [(0, .ref a), (1, .ref b), (2, .int (nI 0))] rfl ⟨rfl, rfl, rfl, trivial⟩ (l_77 hR h32 h33 hab k (many2 + 1) 0 f2 E (by omega) (by omega) ⟨x2, u2, x1.2.2.1.fr (y2 _ (by omega)), x1.2.2.2.1, x1.2.2.2.2.1, fun i hi => (y2 _ (by omega)).trans (x1.2.2.2.2.2 i hi)⟩ (fun j hj => absurd hj (Nat.not_lt_zero _)) ((y1.tr y2).wd (by omega) (by omega)))

theorem l_80 {S : XSc} {d : Nat} {h : XH} {Q : XO → XH → Prop} {a : Nat} {num wt : Int32} {many : Nat} {E : Nat → XEst} {r : Nat → Nat} {rk : Nat} (hrk : rk < many) (hm : many ≤ 5) (h32 : 32 ≤ a) (q1 : h.1 a = some (.inr (7, [.ref (a + 1), .int num, .int wt, .int (nI many)]))) (q5 : ∀ i, i < 5 → r i < 5) (hcl : ∀ i, i < 5 → h.1 (a + 2 + r i) = some (.inr (4, eL (E i)))) (k : ∀ f, RA f 14 (a + 1) 5 (fun i => a + 2 + rot r rk (many - 1) i) → Fr h.1 f (a + 1) (a + 2) → xP S d 80 51 [(0, .ref a), (2, .ref (a + 2 + r rk)), (3, .int (nI many))] [] (f, h.2) Q) : ∀ (m : Nat) (i : Nat) (f : Nat → Option XE), many - i < m → (rk < i) → (i ≤ many) → (RA f 14 (a + 1) 5 (fun j => a + 2 + (if j < rk then r j else if j < i - 1 then r (j + 1) else r j))) → (Fr h.1 f (a + 1) (a + 2)) → xP S d 80 11 [(0, .ref a), (2, .ref (a + 2 + r rk)), (3, .int (nI i))] [] (f, h.2) Q := by
  intro m
  induction m with
  | zero => intro i f hm; exact absurd hm (Nat.not_lt_zero _)
  | succ m ih =>
    intro i f hm hi hi2 hR hF
    have f1 := (hF a (by omega)).trans q1
    refine xs_f 12 r_80_11 rfl ?_
    refine xs_f 13 r_80_12 rfl ?_
    refine xs_get 16 r_80_13 rfl rfl (by first | assumption | exact xup_s | exact f1 | exact ((hF _ (by omega)).trans (hcl _ (by omega))) | exact ((y1 a (by omega)).trans f1) | (refine (xup_n (by omega)).trans ?_; first | assumption | exact xup_s | exact f1 | exact ((hF _ (by omega)).trans (hcl _ (by omega))) | exact ((y1 a (by omega)).trans f1)) | (refine (xup_n (by omega)).trans ((xup_n (by omega)).trans ?_); first | assumption | exact xup_s | exact f1 | exact ((hF _ (by omega)).trans (hcl _ (by omega))) | exact ((y1 a (by omega)).trans f1)) | (refine (xup_n (by omega)).trans ((xup_n (by omega)).trans ((xup_n (by omega)).trans ?_)); first | assumption | exact xup_s | exact f1 | exact ((hF _ (by omega)).trans (hcl _ (by omega))) | exact ((y1 a (by omega)).trans f1))) (by rfl) ?_
    refine xs_if 39 19 r_80_16 rfl (fun hc1 => ?_) (fun hc1 => ?_)
    · have hc1 := (nI_leN rfl rfl (by omega) (by omega)).mp hc1
      refine xs_f 40 r_80_39 rfl ?_
      refine xs_get 43 r_80_40 rfl rfl (by first | assumption | exact xup_s | exact f1 | exact ((hF _ (by omega)).trans (hcl _ (by omega))) | exact ((y1 a (by omega)).trans f1) | (refine (xup_n (by omega)).trans ?_; first | assumption | exact xup_s | exact f1 | exact ((hF _ (by omega)).trans (hcl _ (by omega))) | exact ((y1 a (by omega)).trans f1)) | (refine (xup_n (by omega)).trans ((xup_n (by omega)).trans ?_); first | assumption | exact xup_s | exact f1 | exact ((hF _ (by omega)).trans (hcl _ (by omega))) | exact ((y1 a (by omega)).trans f1)) | (refine (xup_n (by omega)).trans ((xup_n (by omega)).trans ((xup_n (by omega)).trans ?_)); first | assumption | exact xup_s | exact f1 | exact ((hF _ (by omega)).trans (hcl _ (by omega))) | exact ((y1 a (by omega)).trans f1))) (by rfl) ?_
      refine xs_f 44 r_80_43 rfl ?_
      refine xs_get 47 r_80_44 rfl rfl (by first | assumption | exact xup_s | exact f1 | exact ((hF _ (by omega)).trans (hcl _ (by omega))) | exact ((y1 a (by omega)).trans f1) | (refine (xup_n (by omega)).trans ?_; first | assumption | exact xup_s | exact f1 | exact ((hF _ (by omega)).trans (hcl _ (by omega))) | exact ((y1 a (by omega)).trans f1)) | (refine (xup_n (by omega)).trans ((xup_n (by omega)).trans ?_); first | assumption | exact xup_s | exact f1 | exact ((hF _ (by omega)).trans (hcl _ (by omega))) | exact ((y1 a (by omega)).trans f1)) | (refine (xup_n (by omega)).trans ((xup_n (by omega)).trans ((xup_n (by omega)).trans ?_)); first | assumption | exact xup_s | exact f1 | exact ((hF _ (by omega)).trans (hcl _ (by omega))) | exact ((y1 a (by omega)).trans f1))) (by rfl) ?_
      refine xs_f 48 r_80_47 rfl ?_
      refine xs_f 49 r_80_48 rfl ?_
      refine xs_f 50 r_80_49 rfl ?_
      refine xs_astR 51 r_80_50 (fun _ _ => rfl) rfl rfl rfl (j := (many - 1)) (nI_subE rfl (nI_k 1) (by omega)) (by first | assumption | (refine RA.fr ?_ (xup_n (by omega)); first | assumption) | (refine RA.fr (RA.fr ?_ (xup_n (by omega))) (xup_n (by omega)); first | assumption) | (refine RA.fr (RA.fr (RA.fr ?_ (xup_n (by omega))) (xup_n (by omega))) (xup_n (by omega)); first | assumption)) (by omega) ((hF _ (by omega)).trans (hcl rk (by omega))) rfl (fun f3 x3 y3 => ?_)
      have e : i = many := by omega
      subst e
      exact k f3 (x3.ex (fun j hj => by
        unfold xw rot
        (try dsimp only)
        by_cases z : j = i - 1
        · rw [if_pos z, if_neg (by omega), if_neg (by omega), if_pos z]
        · rw [if_neg z]
          by_cases z1 : j < rk
          · rw [if_pos z1, if_pos z1]
          · rw [if_neg z1, if_neg z1]
            by_cases z2 : j < i - 1
            · rw [if_pos z2, if_pos z2]
            · rw [if_neg z2, if_neg z2, if_neg z])) (hF.tr y3)
    · have hc1 := mt (nI_leN rfl rfl (by omega) (by omega)).mpr hc1
      refine xs_f 20 r_80_19 rfl ?_
      refine xs_get 23 r_80_20 rfl rfl (by first | assumption | exact xup_s | exact f1 | exact ((hF _ (by omega)).trans (hcl _ (by omega))) | exact ((y1 a (by omega)).trans f1) | (refine (xup_n (by omega)).trans ?_; first | assumption | exact xup_s | exact f1 | exact ((hF _ (by omega)).trans (hcl _ (by omega))) | exact ((y1 a (by omega)).trans f1)) | (refine (xup_n (by omega)).trans ((xup_n (by omega)).trans ?_); first | assumption | exact xup_s | exact f1 | exact ((hF _ (by omega)).trans (hcl _ (by omega))) | exact ((y1 a (by omega)).trans f1)) | (refine (xup_n (by omega)).trans ((xup_n (by omega)).trans ((xup_n (by omega)).trans ?_)); first | assumption | exact xup_s | exact f1 | exact ((hF _ (by omega)).trans (hcl _ (by omega))) | exact ((y1 a (by omega)).trans f1))) (by rfl) ?_
      refine xs_f 24 r_80_23 rfl ?_
      refine xs_f 25 r_80_24 rfl ?_
      refine xs_f 26 r_80_25 rfl ?_
      refine xs_f 27 r_80_26 rfl ?_
      refine xs_get 30 r_80_27 rfl rfl (by first | assumption | exact xup_s | exact f1 | exact ((hF _ (by omega)).trans (hcl _ (by omega))) | exact ((y1 a (by omega)).trans f1) | (refine (xup_n (by omega)).trans ?_; first | assumption | exact xup_s | exact f1 | exact ((hF _ (by omega)).trans (hcl _ (by omega))) | exact ((y1 a (by omega)).trans f1)) | (refine (xup_n (by omega)).trans ((xup_n (by omega)).trans ?_); first | assumption | exact xup_s | exact f1 | exact ((hF _ (by omega)).trans (hcl _ (by omega))) | exact ((y1 a (by omega)).trans f1)) | (refine (xup_n (by omega)).trans ((xup_n (by omega)).trans ((xup_n (by omega)).trans ?_)); first | assumption | exact xup_s | exact f1 | exact ((hF _ (by omega)).trans (hcl _ (by omega))) | exact ((y1 a (by omega)).trans f1))) (by rfl) ?_
      refine xs_f 31 r_80_30 rfl ?_
      refine xs_aldR 32 r_80_31 (fun _ _ => rfl) rfl rfl rfl (j := i) rfl (by first | assumption | (refine RA.fr ?_ (xup_n (by omega)); first | assumption) | (refine RA.fr (RA.fr ?_ (xup_n (by omega))) (xup_n (by omega)); first | assumption) | (refine RA.fr (RA.fr (RA.fr ?_ (xup_n (by omega))) (xup_n (by omega))) (xup_n (by omega)); first | assumption)) (by omega) ?_
      (try dsimp only)
      rw [show (if i < rk then r i else if i < i - 1 then r (i + 1) else r i) = r i from by rw [if_neg (by omega), if_neg (by omega)]]
      refine xs_astR 33 r_80_32 (fun _ _ => rfl) rfl rfl rfl (j := (i - 1)) (nI_subE rfl (nI_k 1) (by omega)) (by first | assumption | (refine RA.fr ?_ (xup_n (by omega)); first | assumption) | (refine RA.fr (RA.fr ?_ (xup_n (by omega))) (xup_n (by omega)); first | assumption) | (refine RA.fr (RA.fr (RA.fr ?_ (xup_n (by omega))) (xup_n (by omega))) (xup_n (by omega)); first | assumption)) (by omega) (by first | assumption | exact xup_s | exact f1 | exact ((hF _ (by omega)).trans (hcl _ (by omega))) | exact ((y1 a (by omega)).trans f1) | (refine (xup_n (by omega)).trans ?_; first | assumption | exact xup_s | exact f1 | exact ((hF _ (by omega)).trans (hcl _ (by omega))) | exact ((y1 a (by omega)).trans f1)) | (refine (xup_n (by omega)).trans ((xup_n (by omega)).trans ?_); first | assumption | exact xup_s | exact f1 | exact ((hF _ (by omega)).trans (hcl _ (by omega))) | exact ((y1 a (by omega)).trans f1)) | (refine (xup_n (by omega)).trans ((xup_n (by omega)).trans ((xup_n (by omega)).trans ?_)); first | assumption | exact xup_s | exact f1 | exact ((hF _ (by omega)).trans (hcl _ (by omega))) | exact ((y1 a (by omega)).trans f1))) rfl (fun f2 x2 y2 => ?_)
      refine xs_f 36 (lv2 := [(3, _), (0, _), (2, _)]) r_80_33 rfl ?_
      refine xs_f 11 r_80_36 rfl ?_
      exact xP_lv [(0, .ref a), (2, .ref (a + 2 + r rk)), (3, .int (nI (i + 1)))] rfl ⟨rfl, rfl, (by rw [nI_succ]; rfl), trivial⟩ (ih (i + 1) f2 (by omega) (by omega) (by omega) (x2.ex (fun j hj => by
        unfold xw
        (try dsimp only)
        by_cases z : j = i - 1
        · rw [if_pos z, if_neg (by omega), if_pos (by omega), show j + 1 = i by omega]
        · rw [if_neg z]
          by_cases z1 : j < rk
          · rw [if_pos z1, if_pos z1]
          · rw [if_neg z1, if_neg z1]
            by_cases z2 : j < i - 1
            · rw [if_pos z2, if_pos (by omega)]
            · rw [if_neg z2, if_neg (by omega)])) (hF.tr y2))

theorem c_80 {S : XSc} {d : Nat} {h : XH} {Q : XO → XH → Prop} {a : Nat} {num wt : Int32} {many : Nat} {E : Nat → XEst} {r : Nat → Nat} (hQ : QAt h.1 a num wt many E r) (h32 : 32 ≤ a) {rk : Nat} (hrk : rk < many) (k : ∀ f, QAt f a num wt (many - 1) (rot E rk (many - 1)) (rot r rk (many - 1)) → Fr h.1 f a (a + 2) → Q (.inl none) (f, h.2)) : xP S d 80 0 [(0, .ref a), (1, .int (nI rk))] [] h Q := by
  obtain ⟨q1, q2, q3, q5, q6, q7⟩ := id hQ
  refine xs_f 1 r_80_0 rfl ?_
  refine xs_get 4 r_80_1 rfl rfl (by first | assumption | exact xup_s | (refine (xup_n (by omega)).trans ?_; first | assumption | exact xup_s) | (refine (xup_n (by omega)).trans ((xup_n (by omega)).trans ?_); first | assumption | exact xup_s) | (refine (xup_n (by omega)).trans ((xup_n (by omega)).trans ((xup_n (by omega)).trans ?_)); first | assumption | exact xup_s)) (by rfl) ?_
  refine xs_f 5 r_80_4 rfl ?_
  refine xs_aldR 6 r_80_5 (fun _ _ => rfl) rfl rfl rfl (j := rk) rfl (by first | assumption | (refine RA.fr ?_ (xup_n (by omega)); first | assumption) | (refine RA.fr (RA.fr ?_ (xup_n (by omega))) (xup_n (by omega)); first | assumption) | (refine RA.fr (RA.fr (RA.fr ?_ (xup_n (by omega))) (xup_n (by omega))) (xup_n (by omega)); first | assumption)) (by omega) ?_
  refine xs_f 7 (lv2 := [(2, _), (0, _), (1, _)]) r_80_6 rfl ?_
  refine xs_f 8 r_80_7 rfl ?_
  refine xs_f 9 r_80_8 rfl ?_
  refine xs_f 10 r_80_9 rfl ?_
  refine xs_f 11 (lv2 := [(3, _), (2, _), (0, _), (1, _)]) r_80_10 rfl ?_
  refine xP_lv [(0, .ref a), (2, .ref (a + 2 + r rk)), (3, .int (nI (rk + 1)))] rfl ⟨rfl, rfl, (by rw [nI_succ]; rfl), trivial⟩ (l_80 hrk q2 h32 q1 q5 q7 (fun f1 x1 y1 => ?_) (many + 1) (rk + 1) h.1 (by omega) (by omega) (by omega) (q3.ex (fun j hj => by
    (try dsimp only)
    by_cases z1 : j < rk
    · rw [if_pos z1]
    · rw [if_neg z1, if_neg (by omega)])) Fr.rf)
  have g1 := (y1 a (by omega)).trans q1
  refine xs_f 52 r_80_51 rfl ?_
  refine xs_f 53 r_80_52 rfl ?_
  refine xs_get 56 r_80_53 rfl rfl (by first | assumption | exact xup_s | exact g1 | (refine (xup_n (by omega)).trans ?_; first | assumption | exact xup_s | exact g1) | (refine (xup_n (by omega)).trans ((xup_n (by omega)).trans ?_); first | assumption | exact xup_s | exact g1) | (refine (xup_n (by omega)).trans ((xup_n (by omega)).trans ((xup_n (by omega)).trans ?_)); first | assumption | exact xup_s | exact g1)) (by rfl) ?_
  refine xs_f 57 r_80_56 rfl ?_
  refine xs_f 58 r_80_57 rfl ?_
  refine xs_putC 61 r_80_58 rfl (by first | assumption | exact xup_s | exact g1 | (refine (xup_n (by omega)).trans ?_; first | assumption | exact xup_s | exact g1) | (refine (xup_n (by omega)).trans ((xup_n (by omega)).trans ?_); first | assumption | exact xup_s | exact g1) | (refine (xup_n (by omega)).trans ((xup_n (by omega)).trans ((xup_n (by omega)).trans ?_)); first | assumption | exact xup_s | exact g1)) (by rfl) (by rfl) (fun f2 x2 y2 => ?_)
  refine xs_ret r_80_61 rfl ?_
  exact k f2 ⟨x2.trans (by rw [← (nI_subE (a := many) (b := 1) rfl rfl (by omega) : nI many - 1 = _)]; rfl), by omega, x1.fr (y2 _ (by omega)), fun i hi => by rw [rot_I]; exact q5 _ (rotI_lt (by omega) (by omega) hi), fun i j hi hj e => by
    rw [rot_I, rot_I] at e
    exact rotI_inj (by omega) (q6 _ _ (rotI_lt (by omega) (by omega) hi) (rotI_lt (by omega) (by omega) hj) e), fun i hi => by
    rw [rot_I, rot_I]
    have hz := rotI_lt (lo := rk) (hi := many - 1) (i := i) (n := 5) (by omega) (by omega) hi
    have := q5 _ hz
    exact (y2 _ (by omega)).trans ((y1 _ (by omega)).trans (q7 _ hz))⟩ ((y1.wd (by omega) (by omega)).tr (y2.wd (by omega) (by omega)))

