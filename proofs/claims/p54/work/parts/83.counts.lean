/-! the commands are counted -/
def ctC (Bu : Nat → Int32) (n : Nat) : Nat → Nat → Nat → Nat → (Nat → Int32) → XPa
  | 0, _, p, c, nu => (none, (p, (c, nu)))
  | m + 1, v, p, c, nu => match (rdA Bu n p 6 0 p c nu).1 with
    | none => (none, (rdA Bu n p 6 0 p c nu).2)
    | some _ => if (rdA Bu n p 6 0 p c nu).2.1 = n then (some v, (rdA Bu n p 6 0 p c nu).2) else if (rdA Bu n p 6 0 p c nu).2.1 < n ∧ Bu (rdA Bu n p 6 0 p c nu).2.1 = 59 then ctC Bu n m (v + 1) ((rdA Bu n p 6 0 p c nu).2.1 + 1) (rdA Bu n p 6 0 p c nu).2.2.1 (rdA Bu n p 6 0 p c nu).2.2.2 else (none, (rdA Bu n p 6 0 p c nu).2)
theorem ctC_s {Bu : Nat → Int32} {n m v p c : Nat} {nu : Nat → Int32} : ctC Bu n (m + 1) v p c nu = match (rdA Bu n p 6 0 p c nu).1 with
    | none => (none, (rdA Bu n p 6 0 p c nu).2)
    | some _ => if (rdA Bu n p 6 0 p c nu).2.1 = n then (some v, (rdA Bu n p 6 0 p c nu).2) else if (rdA Bu n p 6 0 p c nu).2.1 < n ∧ Bu (rdA Bu n p 6 0 p c nu).2.1 = 59 then ctC Bu n m (v + 1) ((rdA Bu n p 6 0 p c nu).2.1 + 1) (rdA Bu n p 6 0 p c nu).2.2.1 (rdA Bu n p 6 0 p c nu).2.2.2 else (none, (rdA Bu n p 6 0 p c nu).2) := rfl
theorem el_42 {S : XSc} {d : Nat} {h : XH} {Q : XO → XH → Prop} {t n p c : Nat} {Bu nu : Nat → Int32} (hT : TxP h.1 t n p c Bu nu) (h32 : 32 ≤ t) {Z : XPa} (k : ∀ f, TxP f t n Z.2.1 Z.2.2.1 Bu Z.2.2.2 → Z.2.1 ≤ n → Fr h.1 f t (t + 3) → Q (.inl (some (.int (optI Z.1)))) (f, h.2)) : ∀ (m : Nat) (v : Nat) (m1 : Nat) (p1 : Nat) (c1 : Nat) (nu1 : Nat → Int32) (f : Nat → Option XE), 61 - v < m → (v + m1 = 61) → (ctC Bu n m1 v p1 c1 nu1 = Z) → (p1 ≤ n) → (TxP f t n p1 c1 Bu nu1) → (Fr h.1 f t (t + 3)) → xP S (d + 6) 42 6 [(0, .ref t), (1, .int (nI v))] [] (f, h.2) Q := by
  intro m
  induction m with
  | zero => intro v m1 p1 c1 nu1 f hm; exact absurd hm (Nat.not_lt_zero _)
  | succ m ih =>
    intro v m1 p1 c1 nu1 f hm hv hz hp1 hT1 hF
    obtain ⟨o1, g2, g3, g4, g5, g6⟩ := id hT1
    refine xs_f 7 r_42_6 rfl ?_
    refine xs_f 9 r_42_7 rfl ?_
    refine xs_if 51 12 r_42_9 rfl (fun hc1 => ?_) (fun hc1 => ?_)
    · have hc1 := (nI_ltN (nI_k 60) rfl (by omega) (by omega)).mp hc1
      refine xs_f 52 r_42_51 rfl ?_
      refine xs_ret r_42_52 rfl ?_
      have e8 : m1 = 0 := by omega
      subst e8
      have e9 : Z = (none, (p1, (c1, nu1))) := hz.symm
      rw [e9] at k
      exact k f hT1 hp1 hF
    · have hc1 := mt (nI_ltN (nI_k 60) rfl (by omega) (by omega)).mpr hc1
      obtain ⟨m9, rfl⟩ : ∃ m9, m1 = m9 + 1 := ⟨m1 - 1, by omega⟩
      refine xs_f 13 r_42_12 rfl ?_
      refine xs_call (lv2 := [(0, _)]) r_42_13 rfl rfl (by decide) (xcan_0 rfl rfl (by first | assumption | exact xup_s | exact o1 | (refine (xup_n (by omega)).trans ?_; first | assumption | exact xup_s | exact o1) | (refine (xup_n (by omega)).trans ((xup_n (by omega)).trans ?_); first | assumption | exact xup_s | exact o1) | (refine (xup_n (by omega)).trans ((xup_n (by omega)).trans ((xup_n (by omega)).trans ?_)); first | assumption | exact xup_s | exact o1)) (by rfl)) rfl (e_43 (h := (f, h.2)) hT1 h32 hp1 (fun f2 x2 q2 y2 => ?_))
      refine xK_v rfl ?_
      have y12 := hF.tr y2
      cases hA : (rdA Bu n p1 6 0 p1 c1 nu1).1 with
      | none =>
        have e9 : Z = (none, (rdA Bu n p1 6 0 p1 c1 nu1).2) := by
          rw [← hz, ctC_s, hA]
        rw [e9] at k
        refine xs_f 19 r_42_16 rfl ?_
        refine xs_f 20 r_42_19 rfl ?_
        refine xs_ret r_42_20 rfl ?_
        exact k f2 x2 q2 y12
      | some j9 =>
        have o2 := x2.1
        refine xs_f 21 r_42_16 rfl ?_
        refine xs_f 22 r_42_21 rfl ?_
        refine xs_get 25 r_42_22 rfl rfl (by first | assumption | exact xup_s | exact o2 | (refine (xup_n (by omega)).trans ?_; first | assumption | exact xup_s | exact o2) | (refine (xup_n (by omega)).trans ((xup_n (by omega)).trans ?_); first | assumption | exact xup_s | exact o2) | (refine (xup_n (by omega)).trans ((xup_n (by omega)).trans ((xup_n (by omega)).trans ?_)); first | assumption | exact xup_s | exact o2)) (by rfl) ?_
        refine xs_f 26 r_42_25 rfl ?_
        refine xs_get 29 r_42_26 rfl rfl (by first | assumption | exact xup_s | exact o2 | (refine (xup_n (by omega)).trans ?_; first | assumption | exact xup_s | exact o2) | (refine (xup_n (by omega)).trans ((xup_n (by omega)).trans ?_); first | assumption | exact xup_s | exact o2) | (refine (xup_n (by omega)).trans ((xup_n (by omega)).trans ((xup_n (by omega)).trans ?_)); first | assumption | exact xup_s | exact o2)) (by rfl) ?_
        refine xs_if 32 34 r_42_29 rfl (fun hc1 => ?_) (fun hc1 => ?_)
        · have hc1 := (nI_eqN rfl rfl (by omega) (by omega)).mp hc1
          refine xs_f 33 r_42_32 rfl ?_
          refine xs_ret r_42_33 rfl ?_
          have e9 : Z = (some v, (rdA Bu n p1 6 0 p1 c1 nu1).2) := by
            rw [← hz, ctC_s, hA]
            exact if_pos (by omega)
          rw [e9] at k
          exact k f2 x2 q2 y12
        · have hc1 := mt (nI_eqN rfl rfl (by omega) (by omega)).mpr hc1
          refine xs_f 35 r_42_34 rfl ?_
          refine xs_f 37 r_42_35 rfl ?_
          refine xs_call (lv2 := [(0, _), (1, _)]) r_42_37 rfl rfl (by decide) (xcan_0 rfl rfl (by first | assumption | exact xup_s | exact o2 | (refine (xup_n (by omega)).trans ?_; first | assumption | exact xup_s | exact o2) | (refine (xup_n (by omega)).trans ((xup_n (by omega)).trans ?_); first | assumption | exact xup_s | exact o2) | (refine (xup_n (by omega)).trans ((xup_n (by omega)).trans ((xup_n (by omega)).trans ?_)); first | assumption | exact xup_s | exact o2)) (by rfl)) rfl (e_44 (h := (f2, h.2)) x2 h32 (fun l9 b9 f3 x3 y3 => ?_) (fun l9 => ?_))
          · refine xK_v rfl ?_
            refine xs_f 45 r_42_40 rfl ?_
            refine xs_f 48 (lv2 := [(1, _), (0, _)]) r_42_45 rfl ?_
            refine xs_f 6 r_42_48 rfl ?_
            have e9 : ctC Bu n m9 (v + 1) ((rdA Bu n p1 6 0 p1 c1 nu1).2.1 + 1) (rdA Bu n p1 6 0 p1 c1 nu1).2.2.1 (rdA Bu n p1 6 0 p1 c1 nu1).2.2.2 = Z := by
              rw [← hz, ctC_s, hA]
              exact ((if_neg (by omega)).trans (if_pos ⟨l9, b9⟩)).symm
            exact xP_lv [(0, .ref t), (1, .int (nI (v + 1)))] rfl ⟨rfl, (by rw [nI_succ]; rfl), trivial⟩ (ih (v + 1) m9 _ _ _ f3 (by omega) (by omega) e9 l9 x3 (y12.tr (y3.wd (by omega) (by omega))))
          · refine xK_v rfl ?_
            refine xs_f 43 r_42_40 rfl ?_
            refine xs_f 44 r_42_43 rfl ?_
            refine xs_ret r_42_44 rfl ?_
            have e9 : Z = (none, (rdA Bu n p1 6 0 p1 c1 nu1).2) := by
              rw [← hz, ctC_s, hA]
              exact (if_neg (by omega)).trans (if_neg l9)
            rw [e9] at k
            exact k f2 x2 q2 y12

theorem e_42 {S : XSc} {d : Nat} {h : XH} {Q : XO → XH → Prop} {t n p c : Nat} {Bu nu : Nat → Int32} (hT : TxP h.1 t n p c Bu nu) (h32 : 32 ≤ t) {Z : XPa} (hz : ctC Bu n 60 1 0 c nu = Z) (k : ∀ f, TxP f t n Z.2.1 Z.2.2.1 Bu Z.2.2.2 → Z.2.1 ≤ n → Fr h.1 f t (t + 3) → Q (.inl (some (.int (optI Z.1)))) (f, h.2)) : xP S (d + 6) 42 0 [(0, .ref t)] [] h Q := by
  have t1 := hT.1
  refine xs_f 1 r_42_0 rfl ?_
  refine xs_call (lv2 := [(0, _)]) r_42_1 rfl rfl (by decide) (xcan_0 rfl rfl (by first | assumption | exact xup_s | exact t1 | (refine (xup_n (by omega)).trans ?_; first | assumption | exact xup_s | exact t1) | (refine (xup_n (by omega)).trans ((xup_n (by omega)).trans ?_); first | assumption | exact xup_s | exact t1) | (refine (xup_n (by omega)).trans ((xup_n (by omega)).trans ((xup_n (by omega)).trans ?_)); first | assumption | exact xup_s | exact t1)) (by rfl)) rfl (e_39 hT h32 (fun f1 x1 y1 => ?_))
  refine xK_0 rfl ?_
  refine xs_f 5 r_42_4 rfl ?_
  refine xs_f 6 (lv2 := [(1, _), (0, _)]) r_42_5 rfl ?_
  exact xP_lv [(0, .ref t), (1, .int (nI 1))] rfl ⟨rfl, rfl, trivial⟩ (el_42 hT h32 k 61 1 60 0 c nu f1 (by omega) (by omega) hz (Nat.zero_le _) x1 (y1.wd (by omega) (by omega)))

