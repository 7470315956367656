/-! the reference's parser: small steps -/
def hrM (Bu : Nat → Int32) (tn pn : Nat) : Int32 := if pn < tn then Bu pn else -1
/-- one letter is needed: where it stands then, and whether something was wrong -/
def ndM (Bu : Nat → Int32) (tn : Nat) (c : Int32) (s : Nat × Bool) : Nat × Bool := bif s.2 then s else if hrM Bu tn s.1 = c then (s.1 + 1, false) else (s.1, true)
theorem m_222 {S : XSc} {d : Nat} {h : XH} {Q : XO → XH → Prop} {a tn pn : Nat} {ch sv ea fa ol th : Int32} {Bu : Nat → Int32} {wr : Int32} (o0 : h.1 a = some (.inr (9, mO a ch sv (nI tn) ea fa ol th (nI pn) wr))) (b0 : IA h.1 3 (a + 5) 60 Bu) (h32 : 32 ≤ a) (ht : tn ≤ 60) (hp : pn ≤ 100000) (k : Q (.inl (some (.int (hrM Bu tn pn)))) h) : xP S d 222 0 [(0, .ref a)] [] h Q := by
  refine xs_f 1 r_222_0 rfl ?_
  refine xs_get 4 r_222_1 rfl rfl (by first | assumption | exact xup_s | exact o0 | (refine (xup_n (by omega)).trans ?_; first | assumption | exact xup_s | exact o0) | (refine (xup_n (by omega)).trans ((xup_n (by omega)).trans ?_); first | assumption | exact xup_s | exact o0) | (refine (xup_n (by omega)).trans ((xup_n (by omega)).trans ((xup_n (by omega)).trans ?_)); first | assumption | exact xup_s | exact o0)) (by rfl) ?_
  refine xs_f 5 r_222_4 rfl ?_
  refine xs_get 8 r_222_5 rfl rfl (by first | assumption | exact xup_s | exact o0 | (refine (xup_n (by omega)).trans ?_; first | assumption | exact xup_s | exact o0) | (refine (xup_n (by omega)).trans ((xup_n (by omega)).trans ?_); first | assumption | exact xup_s | exact o0) | (refine (xup_n (by omega)).trans ((xup_n (by omega)).trans ((xup_n (by omega)).trans ?_)); first | assumption | exact xup_s | exact o0)) (by rfl) ?_
  refine xs_if 23 11 r_222_8 rfl (fun hc1 => ?_) (fun hc1 => ?_)
  · have hc1 := (nI_leN rfl rfl (by omega) (by omega)).mp hc1
    refine xs_f 24 r_222_23 rfl ?_
    refine xs_ret r_222_24 rfl ?_
    unfold hrM at k
    first
      | (rw [if_pos (by omega)] at k; exact k)
      | (rw [if_neg (by omega)] at k; exact k)
  · have hc1 := mt (nI_leN rfl rfl (by omega) (by omega)).mpr hc1
    refine xs_f 12 r_222_11 rfl ?_
    refine xs_get 15 r_222_12 rfl rfl (by first | assumption | exact xup_s | exact o0 | (refine (xup_n (by omega)).trans ?_; first | assumption | exact xup_s | exact o0) | (refine (xup_n (by omega)).trans ((xup_n (by omega)).trans ?_); first | assumption | exact xup_s | exact o0) | (refine (xup_n (by omega)).trans ((xup_n (by omega)).trans ((xup_n (by omega)).trans ?_)); first | assumption | exact xup_s | exact o0)) (by rfl) ?_
    refine xs_f 16 r_222_15 rfl ?_
    refine xs_get 19 r_222_16 rfl rfl (by first | assumption | exact xup_s | exact o0 | (refine (xup_n (by omega)).trans ?_; first | assumption | exact xup_s | exact o0) | (refine (xup_n (by omega)).trans ((xup_n (by omega)).trans ?_); first | assumption | exact xup_s | exact o0) | (refine (xup_n (by omega)).trans ((xup_n (by omega)).trans ((xup_n (by omega)).trans ?_)); first | assumption | exact xup_s | exact o0)) (by rfl) ?_
    refine xs_aldC 20 r_222_19 (fun _ _ => rfl) rfl rfl rfl (j := pn) rfl (by first | assumption | exact b0 | (refine IA.fr ?_ (xup_n (by omega)); first | assumption | exact b0) | (refine IA.fr (IA.fr ?_ (xup_n (by omega))) (xup_n (by omega)); first | assumption | exact b0) | (refine IA.fr (IA.fr (IA.fr ?_ (xup_n (by omega))) (xup_n (by omega))) (xup_n (by omega)); first | assumption | exact b0)) (by omega) ?_
    refine xs_f 24 r_222_20 rfl ?_
    refine xs_ret r_222_24 rfl ?_
    unfold hrM at k
    first
      | (rw [if_pos (by omega)] at k; exact k)
      | (rw [if_neg (by omega)] at k; exact k)

theorem m_223t {S : XSc} {d : Nat} {h : XH} {Q : XO → XH → Prop} {a tn pn : Nat} {ch sv ea fa ol th : Int32} {Bu : Nat → Int32} (o0 : h.1 a = some (.inr (9, mO a ch sv (nI tn) ea fa ol th (nI pn) 1))) (b0 : IA h.1 3 (a + 5) 60 Bu) (h32 : 32 ≤ a) (ht : tn ≤ 60) (hp : pn ≤ 100000) {c : Int32} (k : ∀ f, f a = some (.inr (9, mO a ch sv (nI tn) ea fa ol th (nI pn) 1)) → Fr h.1 f a (a + 1) → Q (.inl none) (f, h.2)) : xP S d 223 0 [(0, .ref a), (1, .int c)] [] h Q := by
  refine xs_f 1 r_223_0 rfl ?_
  refine xs_f 2 r_223_1 rfl ?_
  refine xs_get 5 r_223_2 rfl rfl (by first | assumption | exact xup_s | exact o0 | (refine (xup_n (by omega)).trans ?_; first | assumption | exact xup_s | exact o0) | (refine (xup_n (by omega)).trans ((xup_n (by omega)).trans ?_); first | assumption | exact xup_s | exact o0) | (refine (xup_n (by omega)).trans ((xup_n (by omega)).trans ((xup_n (by omega)).trans ?_)); first | assumption | exact xup_s | exact o0)) (by rfl) ?_
  refine xs_f 16 r_223_5 rfl ?_
  refine xs_f 17 r_223_16 rfl ?_
  refine xs_f 21 r_223_17 rfl ?_
  refine xs_putC 24 r_223_21 rfl (by first | assumption | exact xup_s | exact o0 | (refine (xup_n (by omega)).trans ?_; first | assumption | exact xup_s | exact o0) | (refine (xup_n (by omega)).trans ((xup_n (by omega)).trans ?_); first | assumption | exact xup_s | exact o0) | (refine (xup_n (by omega)).trans ((xup_n (by omega)).trans ((xup_n (by omega)).trans ?_)); first | assumption | exact xup_s | exact o0)) (by rfl) (by rfl) (fun f1 x1 y1 => ?_)
  refine xs_f 25 r_223_24 rfl ?_
  refine xs_f 26 r_223_25 rfl ?_
  refine xs_get 29 r_223_26 rfl rfl x1 (by rfl) ?_
  refine xs_f 30 r_223_29 rfl ?_
  refine xs_get 33 r_223_30 rfl rfl x1 (by rfl) ?_
  refine xs_f 36 r_223_33 rfl ?_
  refine xs_f 37 r_223_36 rfl ?_
  refine xs_f 41 r_223_37 rfl ?_
  refine xs_f 42 r_223_41 rfl ?_
  refine xs_putC 45 r_223_42 rfl x1 (by rfl) (by rfl) (fun f2 x2 y2 => ?_)
  refine xs_ret r_223_45 rfl ?_
  exact k f2 (by rw [x2]; show some (Sum.inr (9, mO a ch sv (nI tn) ea fa ol th (nI pn + 0) 1)) = _; rw [Int32.add_zero]) (y1.tr y2)

theorem m_223f {S : XSc} {d : Nat} {h : XH} {Q : XO → XH → Prop} {a tn pn : Nat} {ch sv ea fa ol th : Int32} {Bu : Nat → Int32} (o0 : h.1 a = some (.inr (9, mO a ch sv (nI tn) ea fa ol th (nI pn) 0))) (b0 : IA h.1 3 (a + 5) 60 Bu) (h32 : 32 ≤ a) (ht : tn ≤ 60) (hp : pn ≤ 100000) {c : Int32} (k : ∀ f, f a = some (.inr (9, mO a ch sv (nI tn) ea fa ol th (nI (ndM Bu tn c (pn, false)).1) (bI (ndM Bu tn c (pn, false)).2))) → Fr h.1 f a (a + 1) → Q (.inl none) (f, h.2)) : xP S (d + 1) 223 0 [(0, .ref a), (1, .int c)] [] h Q := by
  refine xs_f 1 r_223_0 rfl ?_
  refine xs_f 2 r_223_1 rfl ?_
  refine xs_get 5 r_223_2 rfl rfl (by first | assumption | exact xup_s | exact o0 | (refine (xup_n (by omega)).trans ?_; first | assumption | exact xup_s | exact o0) | (refine (xup_n (by omega)).trans ((xup_n (by omega)).trans ?_); first | assumption | exact xup_s | exact o0) | (refine (xup_n (by omega)).trans ((xup_n (by omega)).trans ((xup_n (by omega)).trans ?_)); first | assumption | exact xup_s | exact o0)) (by rfl) ?_
  refine xs_f 8 r_223_5 rfl ?_
  refine xs_f 9 r_223_8 rfl ?_
  refine xs_call (lv2 := [(0, _)]) r_223_9 rfl rfl (by decide) (xcan_0 rfl rfl (by first | assumption | exact xup_s | exact o0 | (refine (xup_n (by omega)).trans ?_; first | assumption | exact xup_s | exact o0) | (refine (xup_n (by omega)).trans ((xup_n (by omega)).trans ?_); first | assumption | exact xup_s | exact o0) | (refine (xup_n (by omega)).trans ((xup_n (by omega)).trans ((xup_n (by omega)).trans ?_)); first | assumption | exact xup_s | exact o0)) (by rfl)) rfl (m_222 o0 b0 h32 ht hp ?_)
  refine xK_v rfl ?_
  refine xs_f 13 r_223_12 rfl ?_
  refine xs_if 20 16 r_223_13 rfl (fun he => ?_) (fun he => ?_)
  · refine xs_f 21 r_223_20 rfl ?_
    refine xs_putC 24 r_223_21 rfl (by first | assumption | exact xup_s | exact o0 | (refine (xup_n (by omega)).trans ?_; first | assumption | exact xup_s | exact o0) | (refine (xup_n (by omega)).trans ((xup_n (by omega)).trans ?_); first | assumption | exact xup_s | exact o0) | (refine (xup_n (by omega)).trans ((xup_n (by omega)).trans ((xup_n (by omega)).trans ?_)); first | assumption | exact xup_s | exact o0)) (by rfl) (by rfl) (fun f1 x1 y1 => ?_)
    refine xs_f 25 r_223_24 rfl ?_
    refine xs_f 26 r_223_25 rfl ?_
    refine xs_get 29 r_223_26 rfl rfl x1 (by rfl) ?_
    refine xs_f 30 r_223_29 rfl ?_
    refine xs_get 33 r_223_30 rfl rfl x1 (by rfl) ?_
    refine xs_f 40 r_223_33 rfl ?_
    refine xs_f 41 r_223_40 rfl ?_
    refine xs_f 42 r_223_41 rfl ?_
    refine xs_putC 45 r_223_42 rfl x1 (by rfl) (by rfl) (fun f2 x2 y2 => ?_)
    refine xs_ret r_223_45 rfl ?_
    have e9 : (ndM Bu tn c (pn, false)) = (pn + 1, false) := by
      show (if hrM Bu tn pn = c then ((pn + 1, false) : Nat × Bool) else (pn, true)) = _
      rw [if_pos he]
    rw [e9] at k
    exact k f2 (by rw [x2]; show some (Sum.inr (9, mO a ch sv (nI tn) ea fa ol th (nI pn + 1) 0)) = _; rw [← nI_succ]; rfl) (y1.tr y2)
  · refine xs_f 17 r_223_16 rfl ?_
    refine xs_f 21 r_223_17 rfl ?_
    refine xs_putC 24 r_223_21 rfl (by first | assumption | exact xup_s | exact o0 | (refine (xup_n (by omega)).trans ?_; first | assumption | exact xup_s | exact o0) | (refine (xup_n (by omega)).trans ((xup_n (by omega)).trans ?_); first | assumption | exact xup_s | exact o0) | (refine (xup_n (by omega)).trans ((xup_n (by omega)).trans ((xup_n (by omega)).trans ?_)); first | assumption | exact xup_s | exact o0)) (by rfl) (by rfl) (fun f1 x1 y1 => ?_)
    refine xs_f 25 r_223_24 rfl ?_
    refine xs_f 26 r_223_25 rfl ?_
    refine xs_get 29 r_223_26 rfl rfl x1 (by rfl) ?_
    refine xs_f 30 r_223_29 rfl ?_
    refine xs_get 33 r_223_30 rfl rfl x1 (by rfl) ?_
    refine xs_f 36 r_223_33 rfl ?_
    refine xs_f 37 r_223_36 rfl ?_
    refine xs_f 41 r_223_37 rfl ?_
    refine xs_f 42 r_223_41 rfl ?_
    refine xs_putC 45 r_223_42 rfl x1 (by rfl) (by rfl) (fun f2 x2 y2 => ?_)
    refine xs_ret r_223_45 rfl ?_
    have e9 : (ndM Bu tn c (pn, false)) = (pn, true) := by
      show (if hrM Bu tn pn = c then ((pn + 1, false) : Nat × Bool) else (pn, true)) = _
      rw [if_neg he]
    rw [e9] at k
    exact k f2 (by rw [x2]; show some (Sum.inr (9, mO a ch sv (nI tn) ea fa ol th (nI pn + 0) 1)) = _; rw [Int32.add_zero]; rfl) (y1.tr y2)

theorem m_223 {S : XSc} {d : Nat} {h : XH} {Q : XO → XH → Prop} {a tn pn : Nat} {ch sv ea fa ol th : Int32} {Bu : Nat → Int32} {wb : Bool}  (o0 : h.1 a = some (.inr (9, mO a ch sv (nI tn) ea fa ol th (nI pn) (bI wb)))) (b0 : IA h.1 3 (a + 5) 60 Bu) (h32 : 32 ≤ a) (ht : tn ≤ 60) (hp : pn ≤ 100000) {c : Int32} (k : ∀ f, f a = some (.inr (9, mO a ch sv (nI tn) ea fa ol th (nI (ndM Bu tn c (pn, wb)).1) (bI (ndM Bu tn c (pn, wb)).2))) → Fr h.1 f a (a + 1) → Q (.inl none) (f, h.2)) : xP S (d + 1) 223 0 [(0, .ref a), (1, .int c)] [] h Q := by
  cases wb
  · exact m_223f o0 b0 h32 ht hp k
  · exact m_223t o0 b0 h32 ht hp k
