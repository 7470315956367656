/-! the reference's parser: digits -/
theorem dgt_hr {Bu : Nat → Int32} {tn p : Nat} : dgt (hrM Bu tn p) ↔ p < tn ∧ dgt (Bu p) := by
  unfold hrM
  by_cases z : p < tn
  · rw [if_pos z]; exact ⟨fun y => ⟨z, y⟩, fun y => y.2⟩
  · rw [if_neg z]; exact ⟨fun y => absurd y.1 (by decide), fun y => absurd y.1 z⟩
theorem dv_s {Bu : Nat → Int32} {tn p j : Nat} (h : p + j < tn) : 10 * dv Bu p j + hrM Bu tn (p + j) - 48 = dv Bu p (j + 1) := by
  show _ = dv Bu p j * 10 + (Bu (p + j) - 48)
  unfold hrM
  rw [if_pos h]
  grind
theorem ml_225 {S : XSc} {d : Nat} {h : XH} {Q : XO → XH → Prop} {a tn pn : Nat} {ch sv ea fa ol th : Int32} {Bu : Nat → Int32} (b0 : IA h.1 3 (a + 5) 60 Bu) (h32 : 32 ≤ a) (ht : tn ≤ 60) (hp : pn ≤ 1000) {mx : Nat} (hx1 : 1 ≤ mx) (hx9 : mx ≤ 9) (h0 : pn < tn ∧ dgt (Bu pn)) (kS : ∀ j, dgs Bu tn pn mx j → 0 < j → ∀ f, f a = some (.inr (9, mO a ch sv (nI tn) ea fa ol th (nI (pn + j)) 0)) → Fr h.1 f a (a + 1) → Q (.inl (some (.int (dv Bu pn j)))) (f, h.2)) : ∀ (m : Nat) (j : Nat) (f1 : Nat → Option XE), mx - j < m → (j ≤ mx) → (pn + j ≤ tn) → (∀ x, x < j → dgt (Bu (pn + x))) → (f1 a = some (.inr (9, mO a ch sv (nI tn) ea fa ol th (nI (pn + j)) 0))) → (Fr h.1 f1 a (a + 1)) → xP S (d + 1) 225 34 [(0, .ref a), (1, .int (nI mx)), (2, .int (dv Bu pn j)), (3, .int (nI j))] [] (f1, h.2) Q := by
  intro m
  induction m with
  | zero => intro j f1 hm; exact absurd hm (Nat.not_lt_zero _)
  | succ m ih =>
    intro j f1 hm hj hjn hd o1 y1
    have b1 := b0.fr (y1 (a + 5) (by omega))
    refine xs_f 35 r_225_34 rfl ?_
    refine xs_get 38 r_225_35 rfl rfl (by first | assumption | exact xup_s | exact o1 | (refine (xup_n (by omega)).trans ?_; first | assumption | exact xup_s | exact o1) | (refine (xup_n (by omega)).trans ((xup_n (by omega)).trans ?_); first | assumption | exact xup_s | exact o1) | (refine (xup_n (by omega)).trans ((xup_n (by omega)).trans ((xup_n (by omega)).trans ?_)); first | assumption | exact xup_s | exact o1)) (by rfl) ?_
    refine xs_f 41 r_225_38 rfl ?_
    refine xs_f 42 r_225_41 rfl ?_
    refine xs_f 43 r_225_42 rfl ?_
    refine xs_if 89 46 r_225_43 rfl (fun hc2 => ?_) (fun hc2 => ?_)
    · have hc2 := (nI_leN rfl rfl (by omega) (by omega)).mp hc2
      refine xs_f 90 r_225_89 rfl ?_
      refine xs_ret r_225_90 rfl ?_
      first
        | exact kS j ⟨hj, hjn, hd, Or.inl (by omega)⟩ (by omega) f1 o1 y1
        | exact kS j ⟨hj, hjn, hd, Or.inr hg⟩ (by
            rcases Nat.eq_zero_or_pos j with z | z
            · exact absurd h0 (by rw [z] at hg; exact hg)
            · exact z) f1 o1 y1
    · have hc2 := mt (nI_leN rfl rfl (by omega) (by omega)).mpr hc2
      refine xs_f 47 r_225_46 rfl ?_
      refine xs_call (lv2 := [(0, _)]) r_225_47 rfl rfl (by decide) (xcan_0 rfl rfl (by first | assumption | exact xup_s | exact o1 | (refine (xup_n (by omega)).trans ?_; first | assumption | exact xup_s | exact o1) | (refine (xup_n (by omega)).trans ((xup_n (by omega)).trans ?_); first | assumption | exact xup_s | exact o1) | (refine (xup_n (by omega)).trans ((xup_n (by omega)).trans ((xup_n (by omega)).trans ?_)); first | assumption | exact xup_s | exact o1)) (by rfl)) rfl (m_222 (h := (f1, h.2)) o1 b1 h32 ht (by omega) ?_)
      refine xK_v rfl ?_
      refine xs_f 52 r_225_50 rfl ?_
      refine xs_f 54 r_225_52 rfl ?_
      refine xs_call (lv2 := [(0, _), (1, _), (2, _)]) r_225_54 rfl rfl (by decide) (xcan_1 rfl) rfl (m_150 (fun hb => ?_) (fun hb => ?_))
      · have hg := dgt_hr.mp hb
        refine xK_v rfl ?_
        refine xs_f 60 r_225_57 rfl ?_
        refine xs_f 62 r_225_60 rfl ?_
        refine xs_f 63 r_225_62 rfl ?_
        refine xs_f 64 r_225_63 rfl ?_
        refine xs_f 65 r_225_64 rfl ?_
        refine xs_call (lv2 := [(0, _)]) r_225_65 rfl rfl (by decide) (xcan_0 rfl rfl (by first | assumption | exact xup_s | exact o1 | (refine (xup_n (by omega)).trans ?_; first | assumption | exact xup_s | exact o1) | (refine (xup_n (by omega)).trans ((xup_n (by omega)).trans ?_); first | assumption | exact xup_s | exact o1) | (refine (xup_n (by omega)).trans ((xup_n (by omega)).trans ((xup_n (by omega)).trans ?_)); first | assumption | exact xup_s | exact o1)) (by rfl)) rfl (m_222 (h := (f1, h.2)) o1 b1 h32 ht (by omega) ?_)
        refine xK_v rfl ?_
        refine xs_f 69 r_225_68 rfl ?_
        refine xs_f 71 r_225_69 rfl ?_
        refine xs_f 72 r_225_71 rfl ?_
        refine xs_f 73 (lv2 := [(2, _), (0, _), (1, _), (3, _)]) r_225_72 rfl ?_
        refine xs_f 74 r_225_73 rfl ?_
        refine xs_f 75 r_225_74 rfl ?_
        refine xs_get 78 r_225_75 rfl rfl (by first | assumption | exact xup_s | exact o1 | (refine (xup_n (by omega)).trans ?_; first | assumption | exact xup_s | exact o1) | (refine (xup_n (by omega)).trans ((xup_n (by omega)).trans ?_); first | assumption | exact xup_s | exact o1) | (refine (xup_n (by omega)).trans ((xup_n (by omega)).trans ((xup_n (by omega)).trans ?_)); first | assumption | exact xup_s | exact o1)) (by rfl) ?_
        refine xs_f 79 r_225_78 rfl ?_
        refine xs_f 80 r_225_79 rfl ?_
        refine xs_putC 83 r_225_80 rfl (by first | assumption | exact xup_s | exact o1 | (refine (xup_n (by omega)).trans ?_; first | assumption | exact xup_s | exact o1) | (refine (xup_n (by omega)).trans ((xup_n (by omega)).trans ?_); first | assumption | exact xup_s | exact o1) | (refine (xup_n (by omega)).trans ((xup_n (by omega)).trans ((xup_n (by omega)).trans ?_)); first | assumption | exact xup_s | exact o1)) (by rfl) (by rfl) (fun f2 x2 y2 => ?_)
        refine xs_f 86 (lv2 := [(3, _), (2, _), (0, _), (1, _)]) r_225_83 rfl ?_
        refine xs_f 34 r_225_86 rfl ?_
        exact xP_lv [(0, .ref a), (1, .int (nI mx)), (2, .int (dv Bu pn (j + 1))), (3, .int (nI (j + 1)))] rfl ⟨rfl, rfl, (congrArg (fun z => some (Value.int z)) (dv_s hg.1)), (by rw [nI_succ]; rfl), trivial⟩ (ih (j + 1) f2 (by omega) (by omega) (by omega) (fun x hx => by
            by_cases z : x = j
            · rw [z]; exact hg.2
            · exact hd x (by omega)) (by rw [x2]; show some (Sum.inr (9, mO a ch sv (nI tn) ea fa ol th (nI (pn + j) + 1) 0)) = _; rw [← nI_succ]; rfl) (y1.tr y2))
      · have hg : ¬ (pn + j < tn ∧ dgt (Bu (pn + j))) := fun z => hb (dgt_hr.mpr z)
        refine xK_v rfl ?_
        refine xs_f 89 r_225_57 rfl ?_
        refine xs_f 90 r_225_89 rfl ?_
        refine xs_ret r_225_90 rfl ?_
        first
          | exact kS j ⟨hj, hjn, hd, Or.inl (by omega)⟩ (by omega) f1 o1 y1
          | exact kS j ⟨hj, hjn, hd, Or.inr hg⟩ (by
              rcases Nat.eq_zero_or_pos j with z | z
              · exact absurd h0 (by rw [z] at hg; exact hg)
              · exact z) f1 o1 y1

theorem m_225t {S : XSc} {d : Nat} {h : XH} {Q : XO → XH → Prop} {a tn pn : Nat} {ch sv ea fa ol th : Int32} {Bu : Nat → Int32} (o0 : h.1 a = some (.inr (9, mO a ch sv (nI tn) ea fa ol th (nI pn) 1))) (b0 : IA h.1 3 (a + 5) 60 Bu) (h32 : 32 ≤ a) (ht : tn ≤ 60) (hp : pn ≤ 1000) {mx : Nat} (hx1 : 1 ≤ mx) (hx9 : mx ≤ 9) (kT : ∀ f, f a = some (.inr (9, mO a ch sv (nI tn) ea fa ol th (nI pn) 1)) → Fr h.1 f a (a + 1) → Q (.inl (some (.int 0))) (f, h.2)) : xP S (d + 1) 225 0 [(0, .ref a), (1, .int (nI mx))] [] h Q := by
  refine xs_f 1 r_225_0 rfl ?_
  refine xs_f 2 r_225_1 rfl ?_
  refine xs_get 5 r_225_2 rfl rfl (by first | assumption | exact xup_s | exact o0 | (refine (xup_n (by omega)).trans ?_; first | assumption | exact xup_s | exact o0) | (refine (xup_n (by omega)).trans ((xup_n (by omega)).trans ?_); first | assumption | exact xup_s | exact o0) | (refine (xup_n (by omega)).trans ((xup_n (by omega)).trans ((xup_n (by omega)).trans ?_)); first | assumption | exact xup_s | exact o0)) (by rfl) ?_
  refine xs_f 22 r_225_5 rfl ?_
  refine xs_f 23 r_225_22 rfl ?_
  refine xs_f 27 r_225_23 rfl ?_
  refine xs_putC 30 r_225_27 rfl (by first | assumption | exact xup_s | exact o0 | (refine (xup_n (by omega)).trans ?_; first | assumption | exact xup_s | exact o0) | (refine (xup_n (by omega)).trans ((xup_n (by omega)).trans ?_); first | assumption | exact xup_s | exact o0) | (refine (xup_n (by omega)).trans ((xup_n (by omega)).trans ((xup_n (by omega)).trans ?_)); first | assumption | exact xup_s | exact o0)) (by rfl) (by rfl) (fun f1 x1 y1 => ?_)
  refine xs_f 31 r_225_30 rfl ?_
  refine xs_f 32 (lv2 := [(2, _), (0, _), (1, _)]) r_225_31 rfl ?_
  refine xs_f 33 r_225_32 rfl ?_
  refine xs_f 34 (lv2 := [(3, _), (2, _), (0, _), (1, _)]) r_225_33 rfl ?_
  refine xs_f 35 r_225_34 rfl ?_
  refine xs_get 38 r_225_35 rfl rfl x1 (by rfl) ?_
  refine xs_f 89 r_225_38 rfl ?_
  refine xs_f 90 r_225_89 rfl ?_
  refine xs_ret r_225_90 rfl ?_
  exact kT f1 (by rw [x1]; rfl) y1

theorem m_225f {S : XSc} {d : Nat} {h : XH} {Q : XO → XH → Prop} {a tn pn : Nat} {ch sv ea fa ol th : Int32} {Bu : Nat → Int32} (o0 : h.1 a = some (.inr (9, mO a ch sv (nI tn) ea fa ol th (nI pn) 0))) (b0 : IA h.1 3 (a + 5) 60 Bu) (h32 : 32 ≤ a) (ht : tn ≤ 60) (hp : pn ≤ 1000) {mx : Nat} (hx1 : 1 ≤ mx) (hx9 : mx ≤ 9) (kT : ¬ (pn < tn ∧ dgt (Bu pn)) → ∀ f, f a = some (.inr (9, mO a ch sv (nI tn) ea fa ol th (nI pn) 1)) → Fr h.1 f a (a + 1) → Q (.inl (some (.int 0))) (f, h.2)) (kS : ∀ j, dgs Bu tn pn mx j → 0 < j → ∀ f, f a = some (.inr (9, mO a ch sv (nI tn) ea fa ol th (nI (pn + j)) 0)) → Fr h.1 f a (a + 1) → Q (.inl (some (.int (dv Bu pn j)))) (f, h.2)) : xP S (d + 1) 225 0 [(0, .ref a), (1, .int (nI mx))] [] h Q := by
  refine xs_f 1 r_225_0 rfl ?_
  refine xs_f 2 r_225_1 rfl ?_
  refine xs_get 5 r_225_2 rfl rfl (by first | assumption | exact xup_s | exact o0 | (refine (xup_n (by omega)).trans ?_; first | assumption | exact xup_s | exact o0) | (refine (xup_n (by omega)).trans ((xup_n (by omega)).trans ?_); first | assumption | exact xup_s | exact o0) | (refine (xup_n (by omega)).trans ((xup_n (by omega)).trans ((xup_n (by omega)).trans ?_)); first | assumption | exact xup_s | exact o0)) (by rfl) ?_
  refine xs_f 8 r_225_5 rfl ?_
  refine xs_f 9 r_225_8 rfl ?_
  refine xs_call (lv2 := [(0, _)]) r_225_9 rfl rfl (by decide) (xcan_0 rfl rfl (by first | assumption | exact xup_s | exact o0 | (refine (xup_n (by omega)).trans ?_; first | assumption | exact xup_s | exact o0) | (refine (xup_n (by omega)).trans ((xup_n (by omega)).trans ?_); first | assumption | exact xup_s | exact o0) | (refine (xup_n (by omega)).trans ((xup_n (by omega)).trans ((xup_n (by omega)).trans ?_)); first | assumption | exact xup_s | exact o0)) (by rfl)) rfl (m_222 o0 b0 h32 ht (by omega) ?_)
  refine xK_v rfl ?_
  refine xs_f 14 r_225_12 rfl ?_
  refine xs_f 16 r_225_14 rfl ?_
  refine xs_call (lv2 := [(0, _), (1, _), (2, _)]) r_225_16 rfl rfl (by decide) (xcan_1 rfl) rfl (m_150 (fun hb => ?_) (fun hb => ?_))
  · have hg := dgt_hr.mp hb
    refine xK_v rfl ?_
    refine xs_f 26 r_225_19 rfl ?_
    refine xs_f 27 r_225_26 rfl ?_
    refine xs_putC 30 r_225_27 rfl (by first | assumption | exact xup_s | exact o0 | (refine (xup_n (by omega)).trans ?_; first | assumption | exact xup_s | exact o0) | (refine (xup_n (by omega)).trans ((xup_n (by omega)).trans ?_); first | assumption | exact xup_s | exact o0) | (refine (xup_n (by omega)).trans ((xup_n (by omega)).trans ((xup_n (by omega)).trans ?_)); first | assumption | exact xup_s | exact o0)) (by rfl) (by rfl) (fun f1 x1 y1 => ?_)
    refine xs_f 31 r_225_30 rfl ?_
    refine xs_f 32 (lv2 := [(2, _), (0, _), (1, _)]) r_225_31 rfl ?_
    refine xs_f 33 r_225_32 rfl ?_
    refine xs_f 34 (lv2 := [(3, _), (2, _), (0, _), (1, _)]) r_225_33 rfl ?_
    exact xP_lv [(0, .ref a), (1, .int (nI mx)), (2, .int (dv Bu pn 0)), (3, .int (nI 0))] rfl ⟨rfl, rfl, rfl, rfl, trivial⟩ (ml_225 b0 h32 ht hp hx1 hx9 hg kS (mx + 1) 0 f1 (by omega) (by omega) (by omega) (fun x hx => absurd hx (Nat.not_lt_zero _)) (by rw [x1]; rfl) y1)
  · have kT := kT (fun z => hb (dgt_hr.mpr z))
    refine xK_v rfl ?_
    refine xs_f 22 r_225_19 rfl ?_
    refine xs_f 23 r_225_22 rfl ?_
    refine xs_f 27 r_225_23 rfl ?_
    refine xs_putC 30 r_225_27 rfl o0 (by rfl) (by rfl) (fun f1 x1 y1 => ?_)
    refine xs_f 31 r_225_30 rfl ?_
    refine xs_f 32 (lv2 := [(2, _), (0, _), (1, _)]) r_225_31 rfl ?_
    refine xs_f 33 r_225_32 rfl ?_
    refine xs_f 34 (lv2 := [(3, _), (2, _), (0, _), (1, _)]) r_225_33 rfl ?_
    refine xs_f 35 r_225_34 rfl ?_
    refine xs_get 38 r_225_35 rfl rfl (by first | assumption | exact xup_s | exact x1 | (refine (xup_n (by omega)).trans ?_; first | assumption | exact xup_s | exact x1) | (refine (xup_n (by omega)).trans ((xup_n (by omega)).trans ?_); first | assumption | exact xup_s | exact x1) | (refine (xup_n (by omega)).trans ((xup_n (by omega)).trans ((xup_n (by omega)).trans ?_)); first | assumption | exact xup_s | exact x1)) (by rfl) ?_
    refine xs_f 89 r_225_38 rfl ?_
    refine xs_f 90 r_225_89 rfl ?_
    refine xs_ret r_225_90 rfl ?_
    exact kT f1 (by rw [x1]; rfl) y1

