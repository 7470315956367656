/-! the reference's parser: letters, and a place moved back -/
def nd3 (Bu : Nat → Int32) (tn : Nat) (c1 c2 c3 : Int32) (s : Nat × Bool) : Nat × Bool := ndM Bu tn c3 (ndM Bu tn c2 (ndM Bu tn c1 s))
theorem ndM_le {Bu : Nat → Int32} {tn : Nat} {c : Int32} {s : Nat × Bool} : (ndM Bu tn c s).1 ≤ s.1 + 1 := by
  unfold ndM
  cases s.2
  · rw [cond_false]; split <;> simp
  · rw [cond_true]; omega
theorem m_224 {S : XSc} {d : Nat} {h : XH} {Q : XO → XH → Prop} {a tn pn : Nat} {ch sv ea fa ol th : Int32} {Bu : Nat → Int32} {wb : Bool} (o0 : h.1 a = some (.inr (9, mO a ch sv (nI tn) ea fa ol th (nI pn) (bI wb)))) (b0 : IA h.1 3 (a + 5) 60 Bu) (h32 : 32 ≤ a) (ht : tn ≤ 60) (hp : pn ≤ 1000) {c1 c2 c3 : Int32} (k : ∀ f, f a = some (.inr (9, mO a ch sv (nI tn) ea fa ol th (nI (nd3 Bu tn c1 c2 c3 (pn, wb)).1) (bI (nd3 Bu tn c1 c2 c3 (pn, wb)).2))) → Fr h.1 f a (a + 1) → Q (.inl none) (f, h.2)) : xP S (d + 2) 224 0 [(0, .ref a), (1, .int c1), (2, .int c2), (3, .int c3)] [] h Q := by
  refine xs_f 1 r_224_0 rfl ?_
  refine xs_f 2 r_224_1 rfl ?_
  refine xs_call (lv2 := [(0, _), (1, _)]) r_224_2 rfl rfl (by decide) (xcan_0 rfl rfl (by first | assumption | exact xup_s | exact o0 | (refine (xup_n (by omega)).trans ?_; first | assumption | exact xup_s | exact o0) | (refine (xup_n (by omega)).trans ((xup_n (by omega)).trans ?_); first | assumption | exact xup_s | exact o0) | (refine (xup_n (by omega)).trans ((xup_n (by omega)).trans ((xup_n (by omega)).trans ?_)); first | assumption | exact xup_s | exact o0)) (by rfl)) rfl (m_223 o0 b0 h32 ht (by omega) (fun f1 o1 y1 => ?_))
  refine xK_0 rfl ?_
  have b1 := b0.fr (y1 (a + 5) (by omega))
  have n1 := ndM_le (Bu := Bu) (tn := tn) (c := c1) (s := (pn, wb))
  have n2 := ndM_le (Bu := Bu) (tn := tn) (c := c2) (s := ndM Bu tn c1 (pn, wb))
  have n0 : ((pn, wb) : Nat × Bool).1 = pn := rfl
  refine xs_f 6 r_224_5 rfl ?_
  refine xs_f 7 r_224_6 rfl ?_
  refine xs_call (lv2 := [(0, _), (1, _)]) r_224_7 rfl rfl (by decide) (xcan_0 rfl rfl o1 (by rfl)) rfl (m_223 (h := (f1, h.2)) o1 b1 h32 ht (by omega) (fun f2 o2 y2 => ?_))
  refine xK_0 rfl ?_
  have b2 := b1.fr (y2 (a + 5) (by omega))
  refine xs_f 11 r_224_10 rfl ?_
  refine xs_f 12 r_224_11 rfl ?_
  refine xs_call (lv2 := [(0, _), (1, _)]) r_224_12 rfl rfl (by decide) (xcan_0 rfl rfl o2 (by rfl)) rfl (m_223 (h := (f2, h.2)) o2 b2 h32 ht (by show (ndM Bu tn c2 (ndM Bu tn c1 (pn, wb))).1 ≤ 100000; omega) (fun f3 o3 y3 => ?_))
  refine xK_0 rfl ?_
  refine xs_ret r_224_15 rfl ?_
  exact k f3 o3 ((y1.tr y2).tr y3)

