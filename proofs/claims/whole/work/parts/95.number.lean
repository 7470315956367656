/-! the reference's parser: a number is read -/
/-- the number, where it stands then, whether something was wrong -/
def dgM (Bu : Nat → Int32) (tn mx : Nat) (s : Nat × Bool) : Int32 × (Nat × Bool) := if s.2 = false ∧ (s.1 < tn ∧ dgt (Bu s.1)) then (dv Bu s.1 (dgc Bu tn s.1 mx), (s.1 + dgc Bu tn s.1 mx, false)) else (0, (s.1, true))
theorem m_225 {S : XSc} {d : Nat} {h : XH} {Q : XO → XH → Prop} {a tn pn : Nat} {ch sv ea fa ol th : Int32} {Bu : Nat → Int32} {wb : Bool} (o0 : h.1 a = some (.inr (9, mO a ch sv (nI tn) ea fa ol th (nI pn) (bI wb)))) (b0 : IA h.1 3 (a + 5) 60 Bu) (h32 : 32 ≤ a) (ht : tn ≤ 60) (hp : pn ≤ 900) {mx : Nat} (hx1 : 1 ≤ mx) (hx9 : mx ≤ 9) (k : ∀ f, f a = some (.inr (9, mO a ch sv (nI tn) ea fa ol th (nI (dgM Bu tn mx (pn, wb)).2.1) (bI (dgM Bu tn mx (pn, wb)).2.2))) → Fr h.1 f a (a + 1) → Q (.inl (some (.int (dgM Bu tn mx (pn, wb)).1))) (f, h.2)) : xP S (d + 1) 225 0 [(0, .ref a), (1, .int (nI mx))] [] h Q := by
  cases wb
  · refine m_225f o0 b0 h32 ht (by omega) hx1 hx9 (fun hn f o1 y1 => ?_) (fun j hd hj f o1 y1 => ?_)
    · have e : dgM Bu tn mx (pn, false) = (0, (pn, true)) := if_neg (fun z => hn z.2)
      rw [e] at k
      exact k f o1 y1
    · have ej := dgs_dgc hd.2.1 hd.2.2.1 mx hd.1 hd.2.2.2
      have h1 : pn < tn ∧ dgt (Bu pn) := ⟨by have := hd.2.1; omega, by have := hd.2.2.1 0 hj; exact this⟩
      have e : dgM Bu tn mx (pn, false) = (dv Bu pn j, (pn + j, false)) := by
        rw [← ej]
        exact if_pos ⟨rfl, h1⟩
      rw [e] at k
      exact k f o1 y1
  · refine m_225t o0 b0 h32 ht (by omega) hx1 hx9 (fun f o1 y1 => ?_)
    have e : dgM Bu tn mx (pn, true) = (0, (pn, true)) := if_neg (fun z => nomatch z.1)
    rw [e] at k
    exact k f o1 y1
theorem m_226 {S : XSc} {d : Nat} {h : XH} {Q : XO → XH → Prop} {a tn pn : Nat} {ch sv ea fa ol th : Int32} {Bu : Nat → Int32} {wb : Bool} (o0 : h.1 a = some (.inr (9, mO a ch sv (nI tn) ea fa ol th (nI pn) (bI wb)))) (b0 : IA h.1 3 (a + 5) 60 Bu) (h32 : 32 ≤ a) (ht : tn ≤ 60) (hp : pn ≤ 800) {c : Int32} {mx : Nat} (hx1 : 1 ≤ mx) (hx9 : mx ≤ 9) (k : ∀ f, f a = some (.inr (9, mO a ch sv (nI tn) ea fa ol th (nI (dgM Bu tn mx (ndM Bu tn c (pn, wb))).2.1) (bI (dgM Bu tn mx (ndM Bu tn c (pn, wb))).2.2))) → Fr h.1 f a (a + 1) → Q (.inl (some (.int (dgM Bu tn mx (ndM Bu tn c (pn, wb))).1))) (f, h.2)) : xP S (d + 2) 226 0 [(0, .ref a), (1, .int c), (2, .int (nI mx))] [] h Q := by
  refine xs_f 1 r_226_0 rfl ?_
  refine xs_f 2 r_226_1 rfl ?_
  refine xs_call (lv2 := [(0, _), (1, _)]) r_226_2 rfl rfl (by decide) (xcan_0 rfl rfl (by first | assumption | exact xup_s | exact o0 | (refine (xup_n (by omega)).trans ?_; first | assumption | exact xup_s | exact o0) | (refine (xup_n (by omega)).trans ((xup_n (by omega)).trans ?_); first | assumption | exact xup_s | exact o0) | (refine (xup_n (by omega)).trans ((xup_n (by omega)).trans ((xup_n (by omega)).trans ?_)); first | assumption | exact xup_s | exact o0)) (by rfl)) rfl (m_223 o0 b0 h32 ht (by omega) (fun f1 o1 y1 => ?_))
  refine xK_0 rfl ?_
  have b1 := b0.fr (y1 (a + 5) (by omega))
  have n1 := ndM_le (Bu := Bu) (tn := tn) (c := c) (s := (pn, wb))
  have n0 : ((pn, wb) : Nat × Bool).1 = pn := rfl
  refine xs_f 6 r_226_5 rfl ?_
  refine xs_f 7 r_226_6 rfl ?_
  refine xs_call (lv2 := [(0, _), (1, _)]) r_226_7 rfl rfl (by decide) (xcan_0 rfl rfl o1 (by rfl)) rfl (m_225 (h := (f1, h.2)) o1 b1 h32 ht (by omega) hx1 hx9 (fun f2 o2 y2 => ?_))
  refine xK_v rfl ?_
  refine xs_ret r_226_10 rfl ?_
  exact k f2 o2 (y1.tr y2)

