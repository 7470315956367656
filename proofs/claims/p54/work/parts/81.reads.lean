/-! a form is read -/
def dgc (Bu : Nat → Int32) (n p : Nat) : Nat → Nat
  | 0 => 0
  | m + 1 => if dgc Bu n p m = m ∧ p + m < n ∧ dgt (Bu (p + m)) then m + 1 else dgc Bu n p m
theorem dgs_dgc {Bu : Nat → Int32} {n p j : Nat} (hjn : p + j ≤ n) (hd : ∀ x, x < j → dgt (Bu (p + x))) : ∀ mx, j ≤ mx → (j = mx ∨ ¬ (p + j < n ∧ dgt (Bu (p + j)))) → dgc Bu n p mx = j := by
  have h1 : ∀ m, m ≤ j → dgc Bu n p m = m := by
    intro m
    induction m with
    | zero => intro _; rfl
    | succ m ih =>
      intro hm
      unfold dgc
      rw [if_pos ⟨ih (by omega), by omega, hd m (by omega)⟩]
  intro mx
  induction mx with
  | zero => intro h _; rw [h1 0 (by omega)]; omega
  | succ m ih =>
    intro h he
    rcases he with he | he
    · exact (h1 (m + 1) (by omega)).trans he.symm
    · by_cases z : j = m + 1
      · exact (h1 (m + 1) (by omega)).trans z.symm
      · have e := ih (by omega) (Or.inr he)
        unfold dgc
        rw [e, if_neg (fun y => he (by rw [y.1]; exact y.2))]
abbrev XPs : Type := Bool × (Nat × (Nat × (Nat → Int32)))
def stF (Bu : Nat → Int32) (n : Nat) (s : XPs) (ch : Int32) : XPs := bif s.1 then (if dgt ch then (if 0 < dgc Bu n s.2.1 (ch - 48).toNatClampNeg ∧ s.2.2.1 < 6 then (true, (s.2.1 + dgc Bu n s.2.1 (ch - 48).toNatClampNeg, (s.2.2.1 + 1, xw s.2.2.2 s.2.2.1 (dv Bu s.2.1 (dgc Bu n s.2.1 (ch - 48).toNatClampNeg))))) else (false, (s.2.1 + dgc Bu n s.2.1 (ch - 48).toNatClampNeg, s.2.2))) else (if s.2.1 < n ∧ Bu s.2.1 = ch then (true, (s.2.1 + 1, s.2.2)) else (false, s.2))) else s
/-- after the first i letters of the form -/
def rdF (Bu : Nat → Int32) (n : Nat) (F : Nat → Int32) (s : XPs) : Nat → XPs
  | 0 => s
  | i + 1 => stF Bu n (rdF Bu n F s i) (F i)
theorem rdF_f {Bu : Nat → Int32} {n : Nat} {F : Nat → Int32} {s : XPs} {i : Nat} (h : (rdF Bu n F s i).1 = false) : ∀ m, i ≤ m → rdF Bu n F s m = rdF Bu n F s i := by
  intro m
  induction m with
  | zero => intro hm; rw [show i = 0 by omega]
  | succ m ih =>
    intro hm
    by_cases z : i = m + 1
    · rw [z]
    · have e := ih (by omega)
      show stF Bu n (rdF Bu n F s m) (F m) = _
      rw [e]
      unfold stF
      rw [h, cond_false]
theorem dgt_nat {x : Int32} (h : dgt x) : ∃ m, m ≤ 9 ∧ x - 48 = nI m ∧ (x - 48).toNatClampNeg = m := by
  have h1 := Int32.le_iff_toInt_le.mp h.1
  have h2 := Int32.le_iff_toInt_le.mp h.2
  have t0 : (48 : Int32).toInt = 48 := rfl
  have t9 : (57 : Int32).toInt = 57 := rfl
  have e : x = nI x.toInt.toNat := by
    refine Int32.toInt_inj.mp ?_
    rw [nI_toInt (by omega)]
    omega
  refine ⟨x.toInt.toNat - 48, by omega, ?_, ?_⟩
  · rw [e]
    have := nI_subE (x := nI x.toInt.toNat) (y := 48) rfl (nI_k 48) (show 48 ≤ x.toInt.toNat by omega)
    rw [this]
    congr 1
    rw [← e]
  · rw [e, nI_subE (x := nI x.toInt.toNat) (y := 48) rfl (nI_k 48) (show 48 ≤ x.toInt.toNat by omega), ← e]
    exact nI_clamp (by omega)
theorem stF_d {Bu : Nat → Int32} {n : Nat} {s : XPs} {ch : Int32} {m j : Nat} (h1 : s.1 = true) (h2 : dgt ch) (h3 : (ch - 48).toNatClampNeg = m) (hd : dgs Bu n s.2.1 m j) (h0 : 0 < j) (h6 : s.2.2.1 < 6) : stF Bu n s ch = (true, (s.2.1 + j, (s.2.2.1 + 1, xw s.2.2.2 s.2.2.1 (dv Bu s.2.1 j)))) := by
  unfold stF
  rw [h1, cond_true, if_pos h2, h3, dgs_dgc hd.2.1 hd.2.2.1 m hd.1 hd.2.2.2, if_pos ⟨h0, h6⟩]
theorem stF_e {Bu : Nat → Int32} {n : Nat} {s : XPs} {ch : Int32} {m j : Nat} (h1 : s.1 = true) (h2 : dgt ch) (h3 : (ch - 48).toNatClampNeg = m) (hd : dgs Bu n s.2.1 m j) (h0 : j = 0 ∨ s.2.2.1 = 6) : stF Bu n s ch = (false, (s.2.1 + j, s.2.2)) := by
  unfold stF
  rw [h1, cond_true, if_pos h2, h3, dgs_dgc hd.2.1 hd.2.2.1 m hd.1 hd.2.2.2, if_neg (by omega)]
theorem stF_s {Bu : Nat → Int32} {n : Nat} {s : XPs} {ch : Int32} (h1 : s.1 = true) (h2 : ¬ dgt ch) (h3 : s.2.1 < n) (h4 : Bu s.2.1 = ch) : stF Bu n s ch = (true, (s.2.1 + 1, s.2.2)) := by
  unfold stF
  rw [h1, cond_true, if_neg h2, if_pos ⟨h3, h4⟩]
theorem stF_n {Bu : Nat → Int32} {n : Nat} {s : XPs} {ch : Int32} (h1 : s.1 = true) (h2 : ¬ dgt ch) (h3 : ¬ (s.2.1 < n ∧ Bu s.2.1 = ch)) : stF Bu n s ch = (false, s.2) := by
  unfold stF
  rw [h1, cond_true, if_neg h2, if_neg h3]
theorem el_45_0 {S : XSc} {d : Nat} {h : XH} {Q : XO → XH → Prop} {t n p c : Nat} {Bu nu : Nat → Int32} (hT : TxP h.1 t n p c Bu nu) (h32 : 32 ≤ t) (hp : p ≤ n) (k : ∀ f, TxP f t n (rdF Bu n (fun i => (xfB 0).getD i 0) (true, (p, (0, nu))) 6).2.1 (rdF Bu n (fun i => (xfB 0).getD i 0) (true, (p, (0, nu))) 6).2.2.1 Bu (rdF Bu n (fun i => (xfB 0).getD i 0) (true, (p, (0, nu))) 6).2.2.2 → (rdF Bu n (fun i => (xfB 0).getD i 0) (true, (p, (0, nu))) 6).2.1 ≤ n → Fr h.1 f t (t + 3) → Q (.inl (some (.int (bI (rdF Bu n (fun i => (xfB 0).getD i 0) (true, (p, (0, nu))) 6).1)))) (f, h.2)) : ∀ (m : Nat) (i : Nat) (f : Nat → Option XE), 6 - i < m → (i ≤ 6) → ((rdF Bu n (fun i => (xfB 0).getD i 0) (true, (p, (0, nu))) i).1 = true) → ((rdF Bu n (fun i => (xfB 0).getD i 0) (true, (p, (0, nu))) i).2.1 ≤ n) → (TxP f t n (rdF Bu n (fun i => (xfB 0).getD i 0) (true, (p, (0, nu))) i).2.1 (rdF Bu n (fun i => (xfB 0).getD i 0) (true, (p, (0, nu))) i).2.2.1 Bu (rdF Bu n (fun i => (xfB 0).getD i 0) (true, (p, (0, nu))) i).2.2.2) → (Fr h.1 f t (t + 3)) → xP S (d + 4) 45 7 [(0, .ref t), (1, .ref 16), (2, .int (nI i))] [] (f, h.2) Q := by
  intro m
  induction m with
  | zero => intro i f hm; exact absurd hm (Nat.not_lt_zero _)
  | succ m ih =>
    intro i f hm hi ht hpn hT1 hF
    obtain ⟨o1, g2, g3, g4, g5, g6⟩ := id hT1
    refine xs_f 8 r_45_7 rfl ?_
    refine xs_f 9 r_45_8 rfl ?_
    refine xs_call (lv2 := [(0, _)]) r_45_9 rfl rfl (by decide) (by rfl) rfl (s_312_0 ?_)
    refine xK_v rfl ?_
    refine xs_if 59 15 r_45_12 rfl (fun hc1 => ?_) (fun hc1 => ?_)
    · have hc1 := (nI_leN (nI_k 6) rfl (by omega) (by omega)).mp hc1
      refine xs_f 60 r_45_59 rfl ?_
      refine xs_ret r_45_60 rfl ?_
      have e9 : i = 6 := by omega
      subst e9
      rw [ht] at k
      exact k f hT1 hpn hF
    · have hc1 := mt (nI_leN (nI_k 6) rfl (by omega) (by omega)).mpr hc1
      refine xs_f 16 r_45_15 rfl ?_
      refine xs_f 17 r_45_16 rfl ?_
      refine xs_call (lv2 := [(0, _), (1, _)]) r_45_17 rfl rfl (by decide) (by rfl) rfl (s_313_0 (i := i) (by omega) ?_)
      refine xK_v rfl ?_
      refine xs_f 21 (lv2 := [(3, _), (0, _), (1, _), (2, _)]) r_45_20 rfl ?_
      refine xs_f 22 r_45_21 rfl ?_
      refine xs_call (lv2 := [(0, _)]) r_45_22 rfl rfl (by decide) (xcan_1 rfl) rfl (e_47 (fun hg => ?_) (fun hg => ?_))
      · refine xK_v rfl ?_
        refine xs_f 28 r_45_25 rfl ?_
        obtain ⟨m9, hm9, emx, ecl⟩ := dgt_nat hg
        refine xs_f 29 r_45_28 rfl ?_
        refine xs_f 30 r_45_29 rfl ?_
        refine xs_f 32 r_45_30 rfl ?_
        refine xs_f 33 r_45_32 rfl ?_
        refine xs_call (lv2 := [(0, _), (1, _)]) r_45_33 rfl rfl (by decide) (xcan_0 rfl rfl (by first | assumption | exact xup_s | exact o1 | (refine (xup_n (by omega)).trans ?_; first | assumption | exact xup_s | exact o1) | (refine (xup_n (by omega)).trans ((xup_n (by omega)).trans ?_); first | assumption | exact xup_s | exact o1) | (refine (xup_n (by omega)).trans ((xup_n (by omega)).trans ((xup_n (by omega)).trans ?_)); first | assumption | exact xup_s | exact o1)) (by rfl)) rfl (xP_lv [(0, .ref t), (1, .int (nI m9))] rfl ⟨rfl, (congrArg (fun z => some (Value.int z)) emx), trivial⟩ (e_46 (h := (f, h.2)) hT1 h32 hm9 hpn (fun j9 d9 j0 c6 f2 x2 y2 => ?_) (fun j9 d9 j0 f2 x2 y2 => ?_)))
        · have hs : (rdF Bu n (fun i => (xfB 0).getD i 0) (true, (p, (0, nu))) (i + 1)) = _ := stF_d ht hg ecl d9 j0 c6
          have hq : (rdF Bu n (fun i => (xfB 0).getD i 0) (true, (p, (0, nu))) i).2.1 + j9 ≤ n := d9.2.1
          refine xK_v rfl ?_
          refine xs_f 44 r_45_36 rfl ?_
          refine xs_f 46 (lv2 := [(4, _), (3, _), (0, _), (1, _), (2, _)]) r_45_44 rfl ?_
          refine xs_f 48 r_45_46 rfl ?_
          refine xs_f 53 r_45_48 rfl ?_
          refine xs_f 56 (lv2 := [(2, _), (4, _), (3, _), (0, _), (1, _)]) r_45_53 rfl ?_
          refine xs_f 7 r_45_56 rfl ?_
          exact xP_lv [(0, .ref t), (1, .ref 16), (2, .int (nI (i + 1)))] rfl ⟨rfl, rfl, (by rw [nI_succ]; rfl), trivial⟩ (ih (i + 1) f2 (by omega) (by omega) (by rw [hs]) (by rw [hs]; exact hq) (by rw [hs]; exact x2) (hF.tr y2))
        · have hs : (rdF Bu n (fun i => (xfB 0).getD i 0) (true, (p, (0, nu))) (i + 1)) = _ := stF_e ht hg ecl d9 j0
          have hq : (rdF Bu n (fun i => (xfB 0).getD i 0) (true, (p, (0, nu))) i).2.1 + j9 ≤ n := d9.2.1
          refine xK_v rfl ?_
          refine xs_f 44 r_45_36 rfl ?_
          refine xs_f 46 (lv2 := [(4, _), (3, _), (0, _), (1, _), (2, _)]) r_45_44 rfl ?_
          refine xs_f 48 r_45_46 rfl ?_
          refine xs_f 51 r_45_48 rfl ?_
          refine xs_f 52 r_45_51 rfl ?_
          refine xs_ret r_45_52 rfl ?_
          have e9 := rdF_f (i := i + 1) (by rw [hs]) 6 (by omega)
          rw [e9, hs] at k
          first
            | exact k f2 x2 hq (hF.tr y2)
            | exact k f hT1 hpn hF
      · refine xK_v rfl ?_
        refine xs_f 39 r_45_25 rfl ?_
        refine xs_f 40 r_45_39 rfl ?_
        refine xs_f 41 r_45_40 rfl ?_
        refine xs_call (lv2 := [(0, _), (1, _)]) r_45_41 rfl rfl (by decide) (xcan_0 rfl rfl (by first | assumption | exact xup_s | exact o1 | (refine (xup_n (by omega)).trans ?_; first | assumption | exact xup_s | exact o1) | (refine (xup_n (by omega)).trans ((xup_n (by omega)).trans ?_); first | assumption | exact xup_s | exact o1) | (refine (xup_n (by omega)).trans ((xup_n (by omega)).trans ((xup_n (by omega)).trans ?_)); first | assumption | exact xup_s | exact o1)) (by rfl)) rfl (e_44 (h := (f, h.2)) hT1 h32 (fun l9 b9 f2 x2 y2 => ?_) (fun l9 => ?_))
        · have hs : (rdF Bu n (fun i => (xfB 0).getD i 0) (true, (p, (0, nu))) (i + 1)) = _ := stF_s ht hg l9 b9
          have hq : (rdF Bu n (fun i => (xfB 0).getD i 0) (true, (p, (0, nu))) i).2.1 + 1 ≤ n := l9
          have y2 := y2.wd (a := t) (b := t + 3) (by omega) (by omega)
          refine xK_v rfl ?_
          refine xs_f 46 (lv2 := [(4, _), (3, _), (0, _), (1, _), (2, _)]) r_45_44 rfl ?_
          refine xs_f 48 r_45_46 rfl ?_
          refine xs_f 53 r_45_48 rfl ?_
          refine xs_f 56 (lv2 := [(2, _), (4, _), (3, _), (0, _), (1, _)]) r_45_53 rfl ?_
          refine xs_f 7 r_45_56 rfl ?_
          exact xP_lv [(0, .ref t), (1, .ref 16), (2, .int (nI (i + 1)))] rfl ⟨rfl, rfl, (by rw [nI_succ]; rfl), trivial⟩ (ih (i + 1) f2 (by omega) (by omega) (by rw [hs]) (by rw [hs]; exact hq) (by rw [hs]; exact x2) (hF.tr y2))
        · have hs : (rdF Bu n (fun i => (xfB 0).getD i 0) (true, (p, (0, nu))) (i + 1)) = _ := stF_n ht hg l9
          refine xK_v rfl ?_
          refine xs_f 46 (lv2 := [(4, _), (3, _), (0, _), (1, _), (2, _)]) r_45_44 rfl ?_
          refine xs_f 48 r_45_46 rfl ?_
          refine xs_f 51 r_45_48 rfl ?_
          refine xs_f 52 r_45_51 rfl ?_
          refine xs_ret r_45_52 rfl ?_
          have e9 := rdF_f (i := i + 1) (by rw [hs]) 6 (by omega)
          rw [e9, hs] at k
          first
            | exact k f2 x2 hq (hF.tr y2)
            | exact k f hT1 hpn hF

theorem e_45_0 {S : XSc} {d : Nat} {h : XH} {Q : XO → XH → Prop} {t n p c : Nat} {Bu nu : Nat → Int32} (hT : TxP h.1 t n p c Bu nu) (h32 : 32 ≤ t) (hp : p ≤ n) (k : ∀ f, TxP f t n (rdF Bu n (fun i => (xfB 0).getD i 0) (true, (p, (0, nu))) 6).2.1 (rdF Bu n (fun i => (xfB 0).getD i 0) (true, (p, (0, nu))) 6).2.2.1 Bu (rdF Bu n (fun i => (xfB 0).getD i 0) (true, (p, (0, nu))) 6).2.2.2 → (rdF Bu n (fun i => (xfB 0).getD i 0) (true, (p, (0, nu))) 6).2.1 ≤ n → Fr h.1 f t (t + 3) → Q (.inl (some (.int (bI (rdF Bu n (fun i => (xfB 0).getD i 0) (true, (p, (0, nu))) 6).1)))) (f, h.2)) : xP S (d + 4) 45 0 [(0, .ref t), (1, .ref 16)] [] h Q := by
  obtain ⟨t1, t2, t3, t4, t5, t6⟩ := id hT
  refine xs_f 1 r_45_0 rfl ?_
  refine xs_f 2 r_45_1 rfl ?_
  refine xs_putC 5 r_45_2 rfl (by first | assumption | exact xup_s | exact t1 | (refine (xup_n (by omega)).trans ?_; first | assumption | exact xup_s | exact t1) | (refine (xup_n (by omega)).trans ((xup_n (by omega)).trans ?_); first | assumption | exact xup_s | exact t1) | (refine (xup_n (by omega)).trans ((xup_n (by omega)).trans ((xup_n (by omega)).trans ?_)); first | assumption | exact xup_s | exact t1)) (by rfl) (by rfl) (fun f1 x1 y1 => ?_)
  refine xs_f 6 r_45_5 rfl ?_
  refine xs_f 7 (lv2 := [(2, _), (0, _), (1, _)]) r_45_6 rfl ?_
  exact xP_lv [(0, .ref t), (1, .ref 16), (2, .int (nI 0))] rfl ⟨rfl, rfl, rfl, trivial⟩ (el_45_0 (h := h) hT h32 hp k 7 0 f1 (by omega) (by omega) rfl hp ⟨x1, t2.fr (y1 _ (by omega)), t3.fr (y1 _ (by omega)), t4, t5, Nat.zero_le 6⟩ (y1.wd (by omega) (by omega)))

theorem el_45_1 {S : XSc} {d : Nat} {h : XH} {Q : XO → XH → Prop} {t n p c : Nat} {Bu nu : Nat → Int32} (hT : TxP h.1 t n p c Bu nu) (h32 : 32 ≤ t) (hp : p ≤ n) (k : ∀ f, TxP f t n (rdF Bu n (fun i => (xfB 1).getD i 0) (true, (p, (0, nu))) 6).2.1 (rdF Bu n (fun i => (xfB 1).getD i 0) (true, (p, (0, nu))) 6).2.2.1 Bu (rdF Bu n (fun i => (xfB 1).getD i 0) (true, (p, (0, nu))) 6).2.2.2 → (rdF Bu n (fun i => (xfB 1).getD i 0) (true, (p, (0, nu))) 6).2.1 ≤ n → Fr h.1 f t (t + 3) → Q (.inl (some (.int (bI (rdF Bu n (fun i => (xfB 1).getD i 0) (true, (p, (0, nu))) 6).1)))) (f, h.2)) : ∀ (m : Nat) (i : Nat) (f : Nat → Option XE), 6 - i < m → (i ≤ 6) → ((rdF Bu n (fun i => (xfB 1).getD i 0) (true, (p, (0, nu))) i).1 = true) → ((rdF Bu n (fun i => (xfB 1).getD i 0) (true, (p, (0, nu))) i).2.1 ≤ n) → (TxP f t n (rdF Bu n (fun i => (xfB 1).getD i 0) (true, (p, (0, nu))) i).2.1 (rdF Bu n (fun i => (xfB 1).getD i 0) (true, (p, (0, nu))) i).2.2.1 Bu (rdF Bu n (fun i => (xfB 1).getD i 0) (true, (p, (0, nu))) i).2.2.2) → (Fr h.1 f t (t + 3)) → xP S (d + 4) 45 7 [(0, .ref t), (1, .ref 17), (2, .int (nI i))] [] (f, h.2) Q := by
  intro m
  induction m with
  | zero => intro i f hm; exact absurd hm (Nat.not_lt_zero _)
  | succ m ih =>
    intro i f hm hi ht hpn hT1 hF
    obtain ⟨o1, g2, g3, g4, g5, g6⟩ := id hT1
    refine xs_f 8 r_45_7 rfl ?_
    refine xs_f 9 r_45_8 rfl ?_
    refine xs_call (lv2 := [(0, _)]) r_45_9 rfl rfl (by decide) (by rfl) rfl (s_312_1 ?_)
    refine xK_v rfl ?_
    refine xs_if 59 15 r_45_12 rfl (fun hc1 => ?_) (fun hc1 => ?_)
    · have hc1 := (nI_leN (nI_k 6) rfl (by omega) (by omega)).mp hc1
      refine xs_f 60 r_45_59 rfl ?_
      refine xs_ret r_45_60 rfl ?_
      have e9 : i = 6 := by omega
      subst e9
      rw [ht] at k
      exact k f hT1 hpn hF
    · have hc1 := mt (nI_leN (nI_k 6) rfl (by omega) (by omega)).mpr hc1
      refine xs_f 16 r_45_15 rfl ?_
      refine xs_f 17 r_45_16 rfl ?_
      refine xs_call (lv2 := [(0, _), (1, _)]) r_45_17 rfl rfl (by decide) (by rfl) rfl (s_313_1 (i := i) (by omega) ?_)
      refine xK_v rfl ?_
      refine xs_f 21 (lv2 := [(3, _), (0, _), (1, _), (2, _)]) r_45_20 rfl ?_
      refine xs_f 22 r_45_21 rfl ?_
      refine xs_call (lv2 := [(0, _)]) r_45_22 rfl rfl (by decide) (xcan_1 rfl) rfl (e_47 (fun hg => ?_) (fun hg => ?_))
      · refine xK_v rfl ?_
        refine xs_f 28 r_45_25 rfl ?_
        obtain ⟨m9, hm9, emx, ecl⟩ := dgt_nat hg
        refine xs_f 29 r_45_28 rfl ?_
        refine xs_f 30 r_45_29 rfl ?_
        refine xs_f 32 r_45_30 rfl ?_
        refine xs_f 33 r_45_32 rfl ?_
        refine xs_call (lv2 := [(0, _), (1, _)]) r_45_33 rfl rfl (by decide) (xcan_0 rfl rfl (by first | assumption | exact xup_s | exact o1 | (refine (xup_n (by omega)).trans ?_; first | assumption | exact xup_s | exact o1) | (refine (xup_n (by omega)).trans ((xup_n (by omega)).trans ?_); first | assumption | exact xup_s | exact o1) | (refine (xup_n (by omega)).trans ((xup_n (by omega)).trans ((xup_n (by omega)).trans ?_)); first | assumption | exact xup_s | exact o1)) (by rfl)) rfl (xP_lv [(0, .ref t), (1, .int (nI m9))] rfl ⟨rfl, (congrArg (fun z => some (Value.int z)) emx), trivial⟩ (e_46 (h := (f, h.2)) hT1 h32 hm9 hpn (fun j9 d9 j0 c6 f2 x2 y2 => ?_) (fun j9 d9 j0 f2 x2 y2 => ?_)))
        · have hs : (rdF Bu n (fun i => (xfB 1).getD i 0) (true, (p, (0, nu))) (i + 1)) = _ := stF_d ht hg ecl d9 j0 c6
          have hq : (rdF Bu n (fun i => (xfB 1).getD i 0) (true, (p, (0, nu))) i).2.1 + j9 ≤ n := d9.2.1
          refine xK_v rfl ?_
          refine xs_f 44 r_45_36 rfl ?_
          refine xs_f 46 (lv2 := [(4, _), (3, _), (0, _), (1, _), (2, _)]) r_45_44 rfl ?_
          refine xs_f 48 r_45_46 rfl ?_
          refine xs_f 53 r_45_48 rfl ?_
          refine xs_f 56 (lv2 := [(2, _), (4, _), (3, _), (0, _), (1, _)]) r_45_53 rfl ?_
          refine xs_f 7 r_45_56 rfl ?_
          exact xP_lv [(0, .ref t), (1, .ref 17), (2, .int (nI (i + 1)))] rfl ⟨rfl, rfl, (by rw [nI_succ]; rfl), trivial⟩ (ih (i + 1) f2 (by omega) (by omega) (by rw [hs]) (by rw [hs]; exact hq) (by rw [hs]; exact x2) (hF.tr y2))
        · have hs : (rdF Bu n (fun i => (xfB 1).getD i 0) (true, (p, (0, nu))) (i + 1)) = _ := stF_e ht hg ecl d9 j0
          have hq : (rdF Bu n (fun i => (xfB 1).getD i 0) (true, (p, (0, nu))) i).2.1 + j9 ≤ n := d9.2.1
          refine xK_v rfl ?_
          refine xs_f 44 r_45_36 rfl ?_
          refine xs_f 46 (lv2 := [(4, _), (3, _), (0, _), (1, _), (2, _)]) r_45_44 rfl ?_
          refine xs_f 48 r_45_46 rfl ?_
          refine xs_f 51 r_45_48 rfl ?_
          refine xs_f 52 r_45_51 rfl ?_
          refine xs_ret r_45_52 rfl ?_
          have e9 := rdF_f (i := i + 1) (by rw [hs]) 6 (by omega)
          rw [e9, hs] at k
          first
            | exact k f2 x2 hq (hF.tr y2)
            | exact k f hT1 hpn hF
      · refine xK_v rfl ?_
        refine xs_f 39 r_45_25 rfl ?_
        refine xs_f 40 r_45_39 rfl ?_
        refine xs_f 41 r_45_40 rfl ?_
        refine xs_call (lv2 := [(0, _), (1, _)]) r_45_41 rfl rfl (by decide) (xcan_0 rfl rfl (by first | assumption | exact xup_s | exact o1 | (refine (xup_n (by omega)).trans ?_; first | assumption | exact xup_s | exact o1) | (refine (xup_n (by omega)).trans ((xup_n (by omega)).trans ?_); first | assumption | exact xup_s | exact o1) | (refine (xup_n (by omega)).trans ((xup_n (by omega)).trans ((xup_n (by omega)).trans ?_)); first | assumption | exact xup_s | exact o1)) (by rfl)) rfl (e_44 (h := (f, h.2)) hT1 h32 (fun l9 b9 f2 x2 y2 => ?_) (fun l9 => ?_))
        · have hs : (rdF Bu n (fun i => (xfB 1).getD i 0) (true, (p, (0, nu))) (i + 1)) = _ := stF_s ht hg l9 b9
          have hq : (rdF Bu n (fun i => (xfB 1).getD i 0) (true, (p, (0, nu))) i).2.1 + 1 ≤ n := l9
          have y2 := y2.wd (a := t) (b := t + 3) (by omega) (by omega)
          refine xK_v rfl ?_
          refine xs_f 46 (lv2 := [(4, _), (3, _), (0, _), (1, _), (2, _)]) r_45_44 rfl ?_
          refine xs_f 48 r_45_46 rfl ?_
          refine xs_f 53 r_45_48 rfl ?_
          refine xs_f 56 (lv2 := [(2, _), (4, _), (3, _), (0, _), (1, _)]) r_45_53 rfl ?_
          refine xs_f 7 r_45_56 rfl ?_
          exact xP_lv [(0, .ref t), (1, .ref 17), (2, .int (nI (i + 1)))] rfl ⟨rfl, rfl, (by rw [nI_succ]; rfl), trivial⟩ (ih (i + 1) f2 (by omega) (by omega) (by rw [hs]) (by rw [hs]; exact hq) (by rw [hs]; exact x2) (hF.tr y2))
        · have hs : (rdF Bu n (fun i => (xfB 1).getD i 0) (true, (p, (0, nu))) (i + 1)) = _ := stF_n ht hg l9
          refine xK_v rfl ?_
          refine xs_f 46 (lv2 := [(4, _), (3, _), (0, _), (1, _), (2, _)]) r_45_44 rfl ?_
          refine xs_f 48 r_45_46 rfl ?_
          refine xs_f 51 r_45_48 rfl ?_
          refine xs_f 52 r_45_51 rfl ?_
          refine xs_ret r_45_52 rfl ?_
          have e9 := rdF_f (i := i + 1) (by rw [hs]) 6 (by omega)
          rw [e9, hs] at k
          first
            | exact k f2 x2 hq (hF.tr y2)
            | exact k f hT1 hpn hF

theorem e_45_1 {S : XSc} {d : Nat} {h : XH} {Q : XO → XH → Prop} {t n p c : Nat} {Bu nu : Nat → Int32} (hT : TxP h.1 t n p c Bu nu) (h32 : 32 ≤ t) (hp : p ≤ n) (k : ∀ f, TxP f t n (rdF Bu n (fun i => (xfB 1).getD i 0) (true, (p, (0, nu))) 6).2.1 (rdF Bu n (fun i => (xfB 1).getD i 0) (true, (p, (0, nu))) 6).2.2.1 Bu (rdF Bu n (fun i => (xfB 1).getD i 0) (true, (p, (0, nu))) 6).2.2.2 → (rdF Bu n (fun i => (xfB 1).getD i 0) (true, (p, (0, nu))) 6).2.1 ≤ n → Fr h.1 f t (t + 3) → Q (.inl (some (.int (bI (rdF Bu n (fun i => (xfB 1).getD i 0) (true, (p, (0, nu))) 6).1)))) (f, h.2)) : xP S (d + 4) 45 0 [(0, .ref t), (1, .ref 17)] [] h Q := by
  obtain ⟨t1, t2, t3, t4, t5, t6⟩ := id hT
  refine xs_f 1 r_45_0 rfl ?_
  refine xs_f 2 r_45_1 rfl ?_
  refine xs_putC 5 r_45_2 rfl (by first | assumption | exact xup_s | exact t1 | (refine (xup_n (by omega)).trans ?_; first | assumption | exact xup_s | exact t1) | (refine (xup_n (by omega)).trans ((xup_n (by omega)).trans ?_); first | assumption | exact xup_s | exact t1) | (refine (xup_n (by omega)).trans ((xup_n (by omega)).trans ((xup_n (by omega)).trans ?_)); first | assumption | exact xup_s | exact t1)) (by rfl) (by rfl) (fun f1 x1 y1 => ?_)
  refine xs_f 6 r_45_5 rfl ?_
  refine xs_f 7 (lv2 := [(2, _), (0, _), (1, _)]) r_45_6 rfl ?_
  exact xP_lv [(0, .ref t), (1, .ref 17), (2, .int (nI 0))] rfl ⟨rfl, rfl, rfl, trivial⟩ (el_45_1 (h := h) hT h32 hp k 7 0 f1 (by omega) (by omega) rfl hp ⟨x1, t2.fr (y1 _ (by omega)), t3.fr (y1 _ (by omega)), t4, t5, Nat.zero_le 6⟩ (y1.wd (by omega) (by omega)))

theorem el_45_2 {S : XSc} {d : Nat} {h : XH} {Q : XO → XH → Prop} {t n p c : Nat} {Bu nu : Nat → Int32} (hT : TxP h.1 t n p c Bu nu) (h32 : 32 ≤ t) (hp : p ≤ n) (k : ∀ f, TxP f t n (rdF Bu n (fun i => (xfB 2).getD i 0) (true, (p, (0, nu))) 15).2.1 (rdF Bu n (fun i => (xfB 2).getD i 0) (true, (p, (0, nu))) 15).2.2.1 Bu (rdF Bu n (fun i => (xfB 2).getD i 0) (true, (p, (0, nu))) 15).2.2.2 → (rdF Bu n (fun i => (xfB 2).getD i 0) (true, (p, (0, nu))) 15).2.1 ≤ n → Fr h.1 f t (t + 3) → Q (.inl (some (.int (bI (rdF Bu n (fun i => (xfB 2).getD i 0) (true, (p, (0, nu))) 15).1)))) (f, h.2)) : ∀ (m : Nat) (i : Nat) (f : Nat → Option XE), 15 - i < m → (i ≤ 15) → ((rdF Bu n (fun i => (xfB 2).getD i 0) (true, (p, (0, nu))) i).1 = true) → ((rdF Bu n (fun i => (xfB 2).getD i 0) (true, (p, (0, nu))) i).2.1 ≤ n) → (TxP f t n (rdF Bu n (fun i => (xfB 2).getD i 0) (true, (p, (0, nu))) i).2.1 (rdF Bu n (fun i => (xfB 2).getD i 0) (true, (p, (0, nu))) i).2.2.1 Bu (rdF Bu n (fun i => (xfB 2).getD i 0) (true, (p, (0, nu))) i).2.2.2) → (Fr h.1 f t (t + 3)) → xP S (d + 4) 45 7 [(0, .ref t), (1, .ref 18), (2, .int (nI i))] [] (f, h.2) Q := by
  intro m
  induction m with
  | zero => intro i f hm; exact absurd hm (Nat.not_lt_zero _)
  | succ m ih =>
    intro i f hm hi ht hpn hT1 hF
    obtain ⟨o1, g2, g3, g4, g5, g6⟩ := id hT1
    refine xs_f 8 r_45_7 rfl ?_
    refine xs_f 9 r_45_8 rfl ?_
    refine xs_call (lv2 := [(0, _)]) r_45_9 rfl rfl (by decide) (by rfl) rfl (s_312_2 ?_)
    refine xK_v rfl ?_
    refine xs_if 59 15 r_45_12 rfl (fun hc1 => ?_) (fun hc1 => ?_)
    · have hc1 := (nI_leN (nI_k 15) rfl (by omega) (by omega)).mp hc1
      refine xs_f 60 r_45_59 rfl ?_
      refine xs_ret r_45_60 rfl ?_
      have e9 : i = 15 := by omega
      subst e9
      rw [ht] at k
      exact k f hT1 hpn hF
    · have hc1 := mt (nI_leN (nI_k 15) rfl (by omega) (by omega)).mpr hc1
      refine xs_f 16 r_45_15 rfl ?_
      refine xs_f 17 r_45_16 rfl ?_
      refine xs_call (lv2 := [(0, _), (1, _)]) r_45_17 rfl rfl (by decide) (by rfl) rfl (s_313_2 (i := i) (by omega) ?_)
      refine xK_v rfl ?_
      refine xs_f 21 (lv2 := [(3, _), (0, _), (1, _), (2, _)]) r_45_20 rfl ?_
      refine xs_f 22 r_45_21 rfl ?_
      refine xs_call (lv2 := [(0, _)]) r_45_22 rfl rfl (by decide) (xcan_1 rfl) rfl (e_47 (fun hg => ?_) (fun hg => ?_))
      · refine xK_v rfl ?_
        refine xs_f 28 r_45_25 rfl ?_
        obtain ⟨m9, hm9, emx, ecl⟩ := dgt_nat hg
        refine xs_f 29 r_45_28 rfl ?_
        refine xs_f 30 r_45_29 rfl ?_
        refine xs_f 32 r_45_30 rfl ?_
        refine xs_f 33 r_45_32 rfl ?_
        refine xs_call (lv2 := [(0, _), (1, _)]) r_45_33 rfl rfl (by decide) (xcan_0 rfl rfl (by first | assumption | exact xup_s | exact o1 | (refine (xup_n (by omega)).trans ?_; first | assumption | exact xup_s | exact o1) | (refine (xup_n (by omega)).trans ((xup_n (by omega)).trans ?_); first | assumption | exact xup_s | exact o1) | (refine (xup_n (by omega)).trans ((xup_n (by omega)).trans ((xup_n (by omega)).trans ?_)); first | assumption | exact xup_s | exact o1)) (by rfl)) rfl (xP_lv [(0, .ref t), (1, .int (nI m9))] rfl ⟨rfl, (congrArg (fun z => some (Value.int z)) emx), trivial⟩ (e_46 (h := (f, h.2)) hT1 h32 hm9 hpn (fun j9 d9 j0 c6 f2 x2 y2 => ?_) (fun j9 d9 j0 f2 x2 y2 => ?_)))
        · have hs : (rdF Bu n (fun i => (xfB 2).getD i 0) (true, (p, (0, nu))) (i + 1)) = _ := stF_d ht hg ecl d9 j0 c6
          have hq : (rdF Bu n (fun i => (xfB 2).getD i 0) (true, (p, (0, nu))) i).2.1 + j9 ≤ n := d9.2.1
          refine xK_v rfl ?_
          refine xs_f 44 r_45_36 rfl ?_
          refine xs_f 46 (lv2 := [(4, _), (3, _), (0, _), (1, _), (2, _)]) r_45_44 rfl ?_
          refine xs_f 48 r_45_46 rfl ?_
          refine xs_f 53 r_45_48 rfl ?_
          refine xs_f 56 (lv2 := [(2, _), (4, _), (3, _), (0, _), (1, _)]) r_45_53 rfl ?_
          refine xs_f 7 r_45_56 rfl ?_
          exact xP_lv [(0, .ref t), (1, .ref 18), (2, .int (nI (i + 1)))] rfl ⟨rfl, rfl, (by rw [nI_succ]; rfl), trivial⟩ (ih (i + 1) f2 (by omega) (by omega) (by rw [hs]) (by rw [hs]; exact hq) (by rw [hs]; exact x2) (hF.tr y2))
        · have hs : (rdF Bu n (fun i => (xfB 2).getD i 0) (true, (p, (0, nu))) (i + 1)) = _ := stF_e ht hg ecl d9 j0
          have hq : (rdF Bu n (fun i => (xfB 2).getD i 0) (true, (p, (0, nu))) i).2.1 + j9 ≤ n := d9.2.1
          refine xK_v rfl ?_
          refine xs_f 44 r_45_36 rfl ?_
          refine xs_f 46 (lv2 := [(4, _), (3, _), (0, _), (1, _), (2, _)]) r_45_44 rfl ?_
          refine xs_f 48 r_45_46 rfl ?_
          refine xs_f 51 r_45_48 rfl ?_
          refine xs_f 52 r_45_51 rfl ?_
          refine xs_ret r_45_52 rfl ?_
          have e9 := rdF_f (i := i + 1) (by rw [hs]) 15 (by omega)
          rw [e9, hs] at k
          first
            | exact k f2 x2 hq (hF.tr y2)
            | exact k f hT1 hpn hF
      · refine xK_v rfl ?_
        refine xs_f 39 r_45_25 rfl ?_
        refine xs_f 40 r_45_39 rfl ?_
        refine xs_f 41 r_45_40 rfl ?_
        refine xs_call (lv2 := [(0, _), (1, _)]) r_45_41 rfl rfl (by decide) (xcan_0 rfl rfl (by first | assumption | exact xup_s | exact o1 | (refine (xup_n (by omega)).trans ?_; first | assumption | exact xup_s | exact o1) | (refine (xup_n (by omega)).trans ((xup_n (by omega)).trans ?_); first | assumption | exact xup_s | exact o1) | (refine (xup_n (by omega)).trans ((xup_n (by omega)).trans ((xup_n (by omega)).trans ?_)); first | assumption | exact xup_s | exact o1)) (by rfl)) rfl (e_44 (h := (f, h.2)) hT1 h32 (fun l9 b9 f2 x2 y2 => ?_) (fun l9 => ?_))
        · have hs : (rdF Bu n (fun i => (xfB 2).getD i 0) (true, (p, (0, nu))) (i + 1)) = _ := stF_s ht hg l9 b9
          have hq : (rdF Bu n (fun i => (xfB 2).getD i 0) (true, (p, (0, nu))) i).2.1 + 1 ≤ n := l9
          have y2 := y2.wd (a := t) (b := t + 3) (by omega) (by omega)
          refine xK_v rfl ?_
          refine xs_f 46 (lv2 := [(4, _), (3, _), (0, _), (1, _), (2, _)]) r_45_44 rfl ?_
          refine xs_f 48 r_45_46 rfl ?_
          refine xs_f 53 r_45_48 rfl ?_
          refine xs_f 56 (lv2 := [(2, _), (4, _), (3, _), (0, _), (1, _)]) r_45_53 rfl ?_
          refine xs_f 7 r_45_56 rfl ?_
          exact xP_lv [(0, .ref t), (1, .ref 18), (2, .int (nI (i + 1)))] rfl ⟨rfl, rfl, (by rw [nI_succ]; rfl), trivial⟩ (ih (i + 1) f2 (by omega) (by omega) (by rw [hs]) (by rw [hs]; exact hq) (by rw [hs]; exact x2) (hF.tr y2))
        · have hs : (rdF Bu n (fun i => (xfB 2).getD i 0) (true, (p, (0, nu))) (i + 1)) = _ := stF_n ht hg l9
          refine xK_v rfl ?_
          refine xs_f 46 (lv2 := [(4, _), (3, _), (0, _), (1, _), (2, _)]) r_45_44 rfl ?_
          refine xs_f 48 r_45_46 rfl ?_
          refine xs_f 51 r_45_48 rfl ?_
          refine xs_f 52 r_45_51 rfl ?_
          refine xs_ret r_45_52 rfl ?_
          have e9 := rdF_f (i := i + 1) (by rw [hs]) 15 (by omega)
          rw [e9, hs] at k
          first
            | exact k f2 x2 hq (hF.tr y2)
            | exact k f hT1 hpn hF

theorem e_45_2 {S : XSc} {d : Nat} {h : XH} {Q : XO → XH → Prop} {t n p c : Nat} {Bu nu : Nat → Int32} (hT : TxP h.1 t n p c Bu nu) (h32 : 32 ≤ t) (hp : p ≤ n) (k : ∀ f, TxP f t n (rdF Bu n (fun i => (xfB 2).getD i 0) (true, (p, (0, nu))) 15).2.1 (rdF Bu n (fun i => (xfB 2).getD i 0) (true, (p, (0, nu))) 15).2.2.1 Bu (rdF Bu n (fun i => (xfB 2).getD i 0) (true, (p, (0, nu))) 15).2.2.2 → (rdF Bu n (fun i => (xfB 2).getD i 0) (true, (p, (0, nu))) 15).2.1 ≤ n → Fr h.1 f t (t + 3) → Q (.inl (some (.int (bI (rdF Bu n (fun i => (xfB 2).getD i 0) (true, (p, (0, nu))) 15).1)))) (f, h.2)) : xP S (d + 4) 45 0 [(0, .ref t), (1, .ref 18)] [] h Q := by
  obtain ⟨t1, t2, t3, t4, t5, t6⟩ := id hT
  refine xs_f 1 r_45_0 rfl ?_
  refine xs_f 2 r_45_1 rfl ?_
  refine xs_putC 5 r_45_2 rfl (by first | assumption | exact xup_s | exact t1 | (refine (xup_n (by omega)).trans ?_; first | assumption | exact xup_s | exact t1) | (refine (xup_n (by omega)).trans ((xup_n (by omega)).trans ?_); first | assumption | exact xup_s | exact t1) | (refine (xup_n (by omega)).trans ((xup_n (by omega)).trans ((xup_n (by omega)).trans ?_)); first | assumption | exact xup_s | exact t1)) (by rfl) (by rfl) (fun f1 x1 y1 => ?_)
  refine xs_f 6 r_45_5 rfl ?_
  refine xs_f 7 (lv2 := [(2, _), (0, _), (1, _)]) r_45_6 rfl ?_
  exact xP_lv [(0, .ref t), (1, .ref 18), (2, .int (nI 0))] rfl ⟨rfl, rfl, rfl, trivial⟩ (el_45_2 (h := h) hT h32 hp k 16 0 f1 (by omega) (by omega) rfl hp ⟨x1, t2.fr (y1 _ (by omega)), t3.fr (y1 _ (by omega)), t4, t5, Nat.zero_le 6⟩ (y1.wd (by omega) (by omega)))

theorem el_45_3 {S : XSc} {d : Nat} {h : XH} {Q : XO → XH → Prop} {t n p c : Nat} {Bu nu : Nat → Int32} (hT : TxP h.1 t n p c Bu nu) (h32 : 32 ≤ t) (hp : p ≤ n) (k : ∀ f, TxP f t n (rdF Bu n (fun i => (xfB 3).getD i 0) (true, (p, (0, nu))) 8).2.1 (rdF Bu n (fun i => (xfB 3).getD i 0) (true, (p, (0, nu))) 8).2.2.1 Bu (rdF Bu n (fun i => (xfB 3).getD i 0) (true, (p, (0, nu))) 8).2.2.2 → (rdF Bu n (fun i => (xfB 3).getD i 0) (true, (p, (0, nu))) 8).2.1 ≤ n → Fr h.1 f t (t + 3) → Q (.inl (some (.int (bI (rdF Bu n (fun i => (xfB 3).getD i 0) (true, (p, (0, nu))) 8).1)))) (f, h.2)) : ∀ (m : Nat) (i : Nat) (f : Nat → Option XE), 8 - i < m → (i ≤ 8) → ((rdF Bu n (fun i => (xfB 3).getD i 0) (true, (p, (0, nu))) i).1 = true) → ((rdF Bu n (fun i => (xfB 3).getD i 0) (true, (p, (0, nu))) i).2.1 ≤ n) → (TxP f t n (rdF Bu n (fun i => (xfB 3).getD i 0) (true, (p, (0, nu))) i).2.1 (rdF Bu n (fun i => (xfB 3).getD i 0) (true, (p, (0, nu))) i).2.2.1 Bu (rdF Bu n (fun i => (xfB 3).getD i 0) (true, (p, (0, nu))) i).2.2.2) → (Fr h.1 f t (t + 3)) → xP S (d + 4) 45 7 [(0, .ref t), (1, .ref 19), (2, .int (nI i))] [] (f, h.2) Q := by
  intro m
  induction m with
  | zero => intro i f hm; exact absurd hm (Nat.not_lt_zero _)
  | succ m ih =>
    intro i f hm hi ht hpn hT1 hF
    obtain ⟨o1, g2, g3, g4, g5, g6⟩ := id hT1
    refine xs_f 8 r_45_7 rfl ?_
    refine xs_f 9 r_45_8 rfl ?_
    refine xs_call (lv2 := [(0, _)]) r_45_9 rfl rfl (by decide) (by rfl) rfl (s_312_3 ?_)
    refine xK_v rfl ?_
    refine xs_if 59 15 r_45_12 rfl (fun hc1 => ?_) (fun hc1 => ?_)
    · have hc1 := (nI_leN (nI_k 8) rfl (by omega) (by omega)).mp hc1
      refine xs_f 60 r_45_59 rfl ?_
      refine xs_ret r_45_60 rfl ?_
      have e9 : i = 8 := by omega
      subst e9
      rw [ht] at k
      exact k f hT1 hpn hF
    · have hc1 := mt (nI_leN (nI_k 8) rfl (by omega) (by omega)).mpr hc1
      refine xs_f 16 r_45_15 rfl ?_
      refine xs_f 17 r_45_16 rfl ?_
      refine xs_call (lv2 := [(0, _), (1, _)]) r_45_17 rfl rfl (by decide) (by rfl) rfl (s_313_3 (i := i) (by omega) ?_)
      refine xK_v rfl ?_
      refine xs_f 21 (lv2 := [(3, _), (0, _), (1, _), (2, _)]) r_45_20 rfl ?_
      refine xs_f 22 r_45_21 rfl ?_
      refine xs_call (lv2 := [(0, _)]) r_45_22 rfl rfl (by decide) (xcan_1 rfl) rfl (e_47 (fun hg => ?_) (fun hg => ?_))
      · refine xK_v rfl ?_
        refine xs_f 28 r_45_25 rfl ?_
        obtain ⟨m9, hm9, emx, ecl⟩ := dgt_nat hg
        refine xs_f 29 r_45_28 rfl ?_
        refine xs_f 30 r_45_29 rfl ?_
        refine xs_f 32 r_45_30 rfl ?_
        refine xs_f 33 r_45_32 rfl ?_
        refine xs_call (lv2 := [(0, _), (1, _)]) r_45_33 rfl rfl (by decide) (xcan_0 rfl rfl (by first | assumption | exact xup_s | exact o1 | (refine (xup_n (by omega)).trans ?_; first | assumption | exact xup_s | exact o1) | (refine (xup_n (by omega)).trans ((xup_n (by omega)).trans ?_); first | assumption | exact xup_s | exact o1) | (refine (xup_n (by omega)).trans ((xup_n (by omega)).trans ((xup_n (by omega)).trans ?_)); first | assumption | exact xup_s | exact o1)) (by rfl)) rfl (xP_lv [(0, .ref t), (1, .int (nI m9))] rfl ⟨rfl, (congrArg (fun z => some (Value.int z)) emx), trivial⟩ (e_46 (h := (f, h.2)) hT1 h32 hm9 hpn (fun j9 d9 j0 c6 f2 x2 y2 => ?_) (fun j9 d9 j0 f2 x2 y2 => ?_)))
        · have hs : (rdF Bu n (fun i => (xfB 3).getD i 0) (true, (p, (0, nu))) (i + 1)) = _ := stF_d ht hg ecl d9 j0 c6
          have hq : (rdF Bu n (fun i => (xfB 3).getD i 0) (true, (p, (0, nu))) i).2.1 + j9 ≤ n := d9.2.1
          refine xK_v rfl ?_
          refine xs_f 44 r_45_36 rfl ?_
          refine xs_f 46 (lv2 := [(4, _), (3, _), (0, _), (1, _), (2, _)]) r_45_44 rfl ?_
          refine xs_f 48 r_45_46 rfl ?_
          refine xs_f 53 r_45_48 rfl ?_
          refine xs_f 56 (lv2 := [(2, _), (4, _), (3, _), (0, _), (1, _)]) r_45_53 rfl ?_
          refine xs_f 7 r_45_56 rfl ?_
          exact xP_lv [(0, .ref t), (1, .ref 19), (2, .int (nI (i + 1)))] rfl ⟨rfl, rfl, (by rw [nI_succ]; rfl), trivial⟩ (ih (i + 1) f2 (by omega) (by omega) (by rw [hs]) (by rw [hs]; exact hq) (by rw [hs]; exact x2) (hF.tr y2))
        · have hs : (rdF Bu n (fun i => (xfB 3).getD i 0) (true, (p, (0, nu))) (i + 1)) = _ := stF_e ht hg ecl d9 j0
          have hq : (rdF Bu n (fun i => (xfB 3).getD i 0) (true, (p, (0, nu))) i).2.1 + j9 ≤ n := d9.2.1
          refine xK_v rfl ?_
          refine xs_f 44 r_45_36 rfl ?_
          refine xs_f 46 (lv2 := [(4, _), (3, _), (0, _), (1, _), (2, _)]) r_45_44 rfl ?_
          refine xs_f 48 r_45_46 rfl ?_
          refine xs_f 51 r_45_48 rfl ?_
          refine xs_f 52 r_45_51 rfl ?_
          refine xs_ret r_45_52 rfl ?_
          have e9 := rdF_f (i := i + 1) (by rw [hs]) 8 (by omega)
          rw [e9, hs] at k
          first
            | exact k f2 x2 hq (hF.tr y2)
            | exact k f hT1 hpn hF
      · refine xK_v rfl ?_
        refine xs_f 39 r_45_25 rfl ?_
        refine xs_f 40 r_45_39 rfl ?_
        refine xs_f 41 r_45_40 rfl ?_
        refine xs_call (lv2 := [(0, _), (1, _)]) r_45_41 rfl rfl (by decide) (xcan_0 rfl rfl (by first | assumption | exact xup_s | exact o1 | (refine (xup_n (by omega)).trans ?_; first | assumption | exact xup_s | exact o1) | (refine (xup_n (by omega)).trans ((xup_n (by omega)).trans ?_); first | assumption | exact xup_s | exact o1) | (refine (xup_n (by omega)).trans ((xup_n (by omega)).trans ((xup_n (by omega)).trans ?_)); first | assumption | exact xup_s | exact o1)) (by rfl)) rfl (e_44 (h := (f, h.2)) hT1 h32 (fun l9 b9 f2 x2 y2 => ?_) (fun l9 => ?_))
        · have hs : (rdF Bu n (fun i => (xfB 3).getD i 0) (true, (p, (0, nu))) (i + 1)) = _ := stF_s ht hg l9 b9
          have hq : (rdF Bu n (fun i => (xfB 3).getD i 0) (true, (p, (0, nu))) i).2.1 + 1 ≤ n := l9
          have y2 := y2.wd (a := t) (b := t + 3) (by omega) (by omega)
          refine xK_v rfl ?_
          refine xs_f 46 (lv2 := [(4, _), (3, _), (0, _), (1, _), (2, _)]) r_45_44 rfl ?_
          refine xs_f 48 r_45_46 rfl ?_
          refine xs_f 53 r_45_48 rfl ?_
          refine xs_f 56 (lv2 := [(2, _), (4, _), (3, _), (0, _), (1, _)]) r_45_53 rfl ?_
          refine xs_f 7 r_45_56 rfl ?_
          exact xP_lv [(0, .ref t), (1, .ref 19), (2, .int (nI (i + 1)))] rfl ⟨rfl, rfl, (by rw [nI_succ]; rfl), trivial⟩ (ih (i + 1) f2 (by omega) (by omega) (by rw [hs]) (by rw [hs]; exact hq) (by rw [hs]; exact x2) (hF.tr y2))
        · have hs : (rdF Bu n (fun i => (xfB 3).getD i 0) (true, (p, (0, nu))) (i + 1)) = _ := stF_n ht hg l9
          refine xK_v rfl ?_
          refine xs_f 46 (lv2 := [(4, _), (3, _), (0, _), (1, _), (2, _)]) r_45_44 rfl ?_
          refine xs_f 48 r_45_46 rfl ?_
          refine xs_f 51 r_45_48 rfl ?_
          refine xs_f 52 r_45_51 rfl ?_
          refine xs_ret r_45_52 rfl ?_
          have e9 := rdF_f (i := i + 1) (by rw [hs]) 8 (by omega)
          rw [e9, hs] at k
          first
            | exact k f2 x2 hq (hF.tr y2)
            | exact k f hT1 hpn hF

theorem e_45_3 {S : XSc} {d : Nat} {h : XH} {Q : XO → XH → Prop} {t n p c : Nat} {Bu nu : Nat → Int32} (hT : TxP h.1 t n p c Bu nu) (h32 : 32 ≤ t) (hp : p ≤ n) (k : ∀ f, TxP f t n (rdF Bu n (fun i => (xfB 3).getD i 0) (true, (p, (0, nu))) 8).2.1 (rdF Bu n (fun i => (xfB 3).getD i 0) (true, (p, (0, nu))) 8).2.2.1 Bu (rdF Bu n (fun i => (xfB 3).getD i 0) (true, (p, (0, nu))) 8).2.2.2 → (rdF Bu n (fun i => (xfB 3).getD i 0) (true, (p, (0, nu))) 8).2.1 ≤ n → Fr h.1 f t (t + 3) → Q (.inl (some (.int (bI (rdF Bu n (fun i => (xfB 3).getD i 0) (true, (p, (0, nu))) 8).1)))) (f, h.2)) : xP S (d + 4) 45 0 [(0, .ref t), (1, .ref 19)] [] h Q := by
  obtain ⟨t1, t2, t3, t4, t5, t6⟩ := id hT
  refine xs_f 1 r_45_0 rfl ?_
  refine xs_f 2 r_45_1 rfl ?_
  refine xs_putC 5 r_45_2 rfl (by first | assumption | exact xup_s | exact t1 | (refine (xup_n (by omega)).trans ?_; first | assumption | exact xup_s | exact t1) | (refine (xup_n (by omega)).trans ((xup_n (by omega)).trans ?_); first | assumption | exact xup_s | exact t1) | (refine (xup_n (by omega)).trans ((xup_n (by omega)).trans ((xup_n (by omega)).trans ?_)); first | assumption | exact xup_s | exact t1)) (by rfl) (by rfl) (fun f1 x1 y1 => ?_)
  refine xs_f 6 r_45_5 rfl ?_
  refine xs_f 7 (lv2 := [(2, _), (0, _), (1, _)]) r_45_6 rfl ?_
  exact xP_lv [(0, .ref t), (1, .ref 19), (2, .int (nI 0))] rfl ⟨rfl, rfl, rfl, trivial⟩ (el_45_3 (h := h) hT h32 hp k 9 0 f1 (by omega) (by omega) rfl hp ⟨x1, t2.fr (y1 _ (by omega)), t3.fr (y1 _ (by omega)), t4, t5, Nat.zero_le 6⟩ (y1.wd (by omega) (by omega)))

theorem el_45_4 {S : XSc} {d : Nat} {h : XH} {Q : XO → XH → Prop} {t n p c : Nat} {Bu nu : Nat → Int32} (hT : TxP h.1 t n p c Bu nu) (h32 : 32 ≤ t) (hp : p ≤ n) (k : ∀ f, TxP f t n (rdF Bu n (fun i => (xfB 4).getD i 0) (true, (p, (0, nu))) 5).2.1 (rdF Bu n (fun i => (xfB 4).getD i 0) (true, (p, (0, nu))) 5).2.2.1 Bu (rdF Bu n (fun i => (xfB 4).getD i 0) (true, (p, (0, nu))) 5).2.2.2 → (rdF Bu n (fun i => (xfB 4).getD i 0) (true, (p, (0, nu))) 5).2.1 ≤ n → Fr h.1 f t (t + 3) → Q (.inl (some (.int (bI (rdF Bu n (fun i => (xfB 4).getD i 0) (true, (p, (0, nu))) 5).1)))) (f, h.2)) : ∀ (m : Nat) (i : Nat) (f : Nat → Option XE), 5 - i < m → (i ≤ 5) → ((rdF Bu n (fun i => (xfB 4).getD i 0) (true, (p, (0, nu))) i).1 = true) → ((rdF Bu n (fun i => (xfB 4).getD i 0) (true, (p, (0, nu))) i).2.1 ≤ n) → (TxP f t n (rdF Bu n (fun i => (xfB 4).getD i 0) (true, (p, (0, nu))) i).2.1 (rdF Bu n (fun i => (xfB 4).getD i 0) (true, (p, (0, nu))) i).2.2.1 Bu (rdF Bu n (fun i => (xfB 4).getD i 0) (true, (p, (0, nu))) i).2.2.2) → (Fr h.1 f t (t + 3)) → xP S (d + 4) 45 7 [(0, .ref t), (1, .ref 20), (2, .int (nI i))] [] (f, h.2) Q := by
  intro m
  induction m with
  | zero => intro i f hm; exact absurd hm (Nat.not_lt_zero _)
  | succ m ih =>
    intro i f hm hi ht hpn hT1 hF
    obtain ⟨o1, g2, g3, g4, g5, g6⟩ := id hT1
    refine xs_f 8 r_45_7 rfl ?_
    refine xs_f 9 r_45_8 rfl ?_
    refine xs_call (lv2 := [(0, _)]) r_45_9 rfl rfl (by decide) (by rfl) rfl (s_312_4 ?_)
    refine xK_v rfl ?_
    refine xs_if 59 15 r_45_12 rfl (fun hc1 => ?_) (fun hc1 => ?_)
    · have hc1 := (nI_leN (nI_k 5) rfl (by omega) (by omega)).mp hc1
      refine xs_f 60 r_45_59 rfl ?_
      refine xs_ret r_45_60 rfl ?_
      have e9 : i = 5 := by omega
      subst e9
      rw [ht] at k
      exact k f hT1 hpn hF
    · have hc1 := mt (nI_leN (nI_k 5) rfl (by omega) (by omega)).mpr hc1
      refine xs_f 16 r_45_15 rfl ?_
      refine xs_f 17 r_45_16 rfl ?_
      refine xs_call (lv2 := [(0, _), (1, _)]) r_45_17 rfl rfl (by decide) (by rfl) rfl (s_313_4 (i := i) (by omega) ?_)
      refine xK_v rfl ?_
      refine xs_f 21 (lv2 := [(3, _), (0, _), (1, _), (2, _)]) r_45_20 rfl ?_
      refine xs_f 22 r_45_21 rfl ?_
      refine xs_call (lv2 := [(0, _)]) r_45_22 rfl rfl (by decide) (xcan_1 rfl) rfl (e_47 (fun hg => ?_) (fun hg => ?_))
      · refine xK_v rfl ?_
        refine xs_f 28 r_45_25 rfl ?_
        obtain ⟨m9, hm9, emx, ecl⟩ := dgt_nat hg
        refine xs_f 29 r_45_28 rfl ?_
        refine xs_f 30 r_45_29 rfl ?_
        refine xs_f 32 r_45_30 rfl ?_
        refine xs_f 33 r_45_32 rfl ?_
        refine xs_call (lv2 := [(0, _), (1, _)]) r_45_33 rfl rfl (by decide) (xcan_0 rfl rfl (by first | assumption | exact xup_s | exact o1 | (refine (xup_n (by omega)).trans ?_; first | assumption | exact xup_s | exact o1) | (refine (xup_n (by omega)).trans ((xup_n (by omega)).trans ?_); first | assumption | exact xup_s | exact o1) | (refine (xup_n (by omega)).trans ((xup_n (by omega)).trans ((xup_n (by omega)).trans ?_)); first | assumption | exact xup_s | exact o1)) (by rfl)) rfl (xP_lv [(0, .ref t), (1, .int (nI m9))] rfl ⟨rfl, (congrArg (fun z => some (Value.int z)) emx), trivial⟩ (e_46 (h := (f, h.2)) hT1 h32 hm9 hpn (fun j9 d9 j0 c6 f2 x2 y2 => ?_) (fun j9 d9 j0 f2 x2 y2 => ?_)))
        · have hs : (rdF Bu n (fun i => (xfB 4).getD i 0) (true, (p, (0, nu))) (i + 1)) = _ := stF_d ht hg ecl d9 j0 c6
          have hq : (rdF Bu n (fun i => (xfB 4).getD i 0) (true, (p, (0, nu))) i).2.1 + j9 ≤ n := d9.2.1
          refine xK_v rfl ?_
          refine xs_f 44 r_45_36 rfl ?_
          refine xs_f 46 (lv2 := [(4, _), (3, _), (0, _), (1, _), (2, _)]) r_45_44 rfl ?_
          refine xs_f 48 r_45_46 rfl ?_
          refine xs_f 53 r_45_48 rfl ?_
          refine xs_f 56 (lv2 := [(2, _), (4, _), (3, _), (0, _), (1, _)]) r_45_53 rfl ?_
          refine xs_f 7 r_45_56 rfl ?_
          exact xP_lv [(0, .ref t), (1, .ref 20), (2, .int (nI (i + 1)))] rfl ⟨rfl, rfl, (by rw [nI_succ]; rfl), trivial⟩ (ih (i + 1) f2 (by omega) (by omega) (by rw [hs]) (by rw [hs]; exact hq) (by rw [hs]; exact x2) (hF.tr y2))
        · have hs : (rdF Bu n (fun i => (xfB 4).getD i 0) (true, (p, (0, nu))) (i + 1)) = _ := stF_e ht hg ecl d9 j0
          have hq : (rdF Bu n (fun i => (xfB 4).getD i 0) (true, (p, (0, nu))) i).2.1 + j9 ≤ n := d9.2.1
          refine xK_v rfl ?_
          refine xs_f 44 r_45_36 rfl ?_
          refine xs_f 46 (lv2 := [(4, _), (3, _), (0, _), (1, _), (2, _)]) r_45_44 rfl ?_
          refine xs_f 48 r_45_46 rfl ?_
          refine xs_f 51 r_45_48 rfl ?_
          refine xs_f 52 r_45_51 rfl ?_
          refine xs_ret r_45_52 rfl ?_
          have e9 := rdF_f (i := i + 1) (by rw [hs]) 5 (by omega)
          rw [e9, hs] at k
          first
            | exact k f2 x2 hq (hF.tr y2)
            | exact k f hT1 hpn hF
      · refine xK_v rfl ?_
        refine xs_f 39 r_45_25 rfl ?_
        refine xs_f 40 r_45_39 rfl ?_
        refine xs_f 41 r_45_40 rfl ?_
        refine xs_call (lv2 := [(0, _), (1, _)]) r_45_41 rfl rfl (by decide) (xcan_0 rfl rfl (by first | assumption | exact xup_s | exact o1 | (refine (xup_n (by omega)).trans ?_; first | assumption | exact xup_s | exact o1) | (refine (xup_n (by omega)).trans ((xup_n (by omega)).trans ?_); first | assumption | exact xup_s | exact o1) | (refine (xup_n (by omega)).trans ((xup_n (by omega)).trans ((xup_n (by omega)).trans ?_)); first | assumption | exact xup_s | exact o1)) (by rfl)) rfl (e_44 (h := (f, h.2)) hT1 h32 (fun l9 b9 f2 x2 y2 => ?_) (fun l9 => ?_))
        · have hs : (rdF Bu n (fun i => (xfB 4).getD i 0) (true, (p, (0, nu))) (i + 1)) = _ := stF_s ht hg l9 b9
          have hq : (rdF Bu n (fun i => (xfB 4).getD i 0) (true, (p, (0, nu))) i).2.1 + 1 ≤ n := l9
          have y2 := y2.wd (a := t) (b := t + 3) (by omega) (by omega)
          refine xK_v rfl ?_
          refine xs_f 46 (lv2 := [(4, _), (3, _), (0, _), (1, _), (2, _)]) r_45_44 rfl ?_
          refine xs_f 48 r_45_46 rfl ?_
          refine xs_f 53 r_45_48 rfl ?_
          refine xs_f 56 (lv2 := [(2, _), (4, _), (3, _), (0, _), (1, _)]) r_45_53 rfl ?_
          refine xs_f 7 r_45_56 rfl ?_
          exact xP_lv [(0, .ref t), (1, .ref 20), (2, .int (nI (i + 1)))] rfl ⟨rfl, rfl, (by rw [nI_succ]; rfl), trivial⟩ (ih (i + 1) f2 (by omega) (by omega) (by rw [hs]) (by rw [hs]; exact hq) (by rw [hs]; exact x2) (hF.tr y2))
        · have hs : (rdF Bu n (fun i => (xfB 4).getD i 0) (true, (p, (0, nu))) (i + 1)) = _ := stF_n ht hg l9
          refine xK_v rfl ?_
          refine xs_f 46 (lv2 := [(4, _), (3, _), (0, _), (1, _), (2, _)]) r_45_44 rfl ?_
          refine xs_f 48 r_45_46 rfl ?_
          refine xs_f 51 r_45_48 rfl ?_
          refine xs_f 52 r_45_51 rfl ?_
          refine xs_ret r_45_52 rfl ?_
          have e9 := rdF_f (i := i + 1) (by rw [hs]) 5 (by omega)
          rw [e9, hs] at k
          first
            | exact k f2 x2 hq (hF.tr y2)
            | exact k f hT1 hpn hF

theorem e_45_4 {S : XSc} {d : Nat} {h : XH} {Q : XO → XH → Prop} {t n p c : Nat} {Bu nu : Nat → Int32} (hT : TxP h.1 t n p c Bu nu) (h32 : 32 ≤ t) (hp : p ≤ n) (k : ∀ f, TxP f t n (rdF Bu n (fun i => (xfB 4).getD i 0) (true, (p, (0, nu))) 5).2.1 (rdF Bu n (fun i => (xfB 4).getD i 0) (true, (p, (0, nu))) 5).2.2.1 Bu (rdF Bu n (fun i => (xfB 4).getD i 0) (true, (p, (0, nu))) 5).2.2.2 → (rdF Bu n (fun i => (xfB 4).getD i 0) (true, (p, (0, nu))) 5).2.1 ≤ n → Fr h.1 f t (t + 3) → Q (.inl (some (.int (bI (rdF Bu n (fun i => (xfB 4).getD i 0) (true, (p, (0, nu))) 5).1)))) (f, h.2)) : xP S (d + 4) 45 0 [(0, .ref t), (1, .ref 20)] [] h Q := by
  obtain ⟨t1, t2, t3, t4, t5, t6⟩ := id hT
  refine xs_f 1 r_45_0 rfl ?_
  refine xs_f 2 r_45_1 rfl ?_
  refine xs_putC 5 r_45_2 rfl (by first | assumption | exact xup_s | exact t1 | (refine (xup_n (by omega)).trans ?_; first | assumption | exact xup_s | exact t1) | (refine (xup_n (by omega)).trans ((xup_n (by omega)).trans ?_); first | assumption | exact xup_s | exact t1) | (refine (xup_n (by omega)).trans ((xup_n (by omega)).trans ((xup_n (by omega)).trans ?_)); first | assumption | exact xup_s | exact t1)) (by rfl) (by rfl) (fun f1 x1 y1 => ?_)
  refine xs_f 6 r_45_5 rfl ?_
  refine xs_f 7 (lv2 := [(2, _), (0, _), (1, _)]) r_45_6 rfl ?_
  exact xP_lv [(0, .ref t), (1, .ref 20), (2, .int (nI 0))] rfl ⟨rfl, rfl, rfl, trivial⟩ (el_45_4 (h := h) hT h32 hp k 6 0 f1 (by omega) (by omega) rfl hp ⟨x1, t2.fr (y1 _ (by omega)), t3.fr (y1 _ (by omega)), t4, t5, Nat.zero_le 6⟩ (y1.wd (by omega) (by omega)))

theorem el_45_5 {S : XSc} {d : Nat} {h : XH} {Q : XO → XH → Prop} {t n p c : Nat} {Bu nu : Nat → Int32} (hT : TxP h.1 t n p c Bu nu) (h32 : 32 ≤ t) (hp : p ≤ n) (k : ∀ f, TxP f t n (rdF Bu n (fun i => (xfB 5).getD i 0) (true, (p, (0, nu))) 5).2.1 (rdF Bu n (fun i => (xfB 5).getD i 0) (true, (p, (0, nu))) 5).2.2.1 Bu (rdF Bu n (fun i => (xfB 5).getD i 0) (true, (p, (0, nu))) 5).2.2.2 → (rdF Bu n (fun i => (xfB 5).getD i 0) (true, (p, (0, nu))) 5).2.1 ≤ n → Fr h.1 f t (t + 3) → Q (.inl (some (.int (bI (rdF Bu n (fun i => (xfB 5).getD i 0) (true, (p, (0, nu))) 5).1)))) (f, h.2)) : ∀ (m : Nat) (i : Nat) (f : Nat → Option XE), 5 - i < m → (i ≤ 5) → ((rdF Bu n (fun i => (xfB 5).getD i 0) (true, (p, (0, nu))) i).1 = true) → ((rdF Bu n (fun i => (xfB 5).getD i 0) (true, (p, (0, nu))) i).2.1 ≤ n) → (TxP f t n (rdF Bu n (fun i => (xfB 5).getD i 0) (true, (p, (0, nu))) i).2.1 (rdF Bu n (fun i => (xfB 5).getD i 0) (true, (p, (0, nu))) i).2.2.1 Bu (rdF Bu n (fun i => (xfB 5).getD i 0) (true, (p, (0, nu))) i).2.2.2) → (Fr h.1 f t (t + 3)) → xP S (d + 4) 45 7 [(0, .ref t), (1, .ref 21), (2, .int (nI i))] [] (f, h.2) Q := by
  intro m
  induction m with
  | zero => intro i f hm; exact absurd hm (Nat.not_lt_zero _)
  | succ m ih =>
    intro i f hm hi ht hpn hT1 hF
    obtain ⟨o1, g2, g3, g4, g5, g6⟩ := id hT1
    refine xs_f 8 r_45_7 rfl ?_
    refine xs_f 9 r_45_8 rfl ?_
    refine xs_call (lv2 := [(0, _)]) r_45_9 rfl rfl (by decide) (by rfl) rfl (s_312_5 ?_)
    refine xK_v rfl ?_
    refine xs_if 59 15 r_45_12 rfl (fun hc1 => ?_) (fun hc1 => ?_)
    · have hc1 := (nI_leN (nI_k 5) rfl (by omega) (by omega)).mp hc1
      refine xs_f 60 r_45_59 rfl ?_
      refine xs_ret r_45_60 rfl ?_
      have e9 : i = 5 := by omega
      subst e9
      rw [ht] at k
      exact k f hT1 hpn hF
    · have hc1 := mt (nI_leN (nI_k 5) rfl (by omega) (by omega)).mpr hc1
      refine xs_f 16 r_45_15 rfl ?_
      refine xs_f 17 r_45_16 rfl ?_
      refine xs_call (lv2 := [(0, _), (1, _)]) r_45_17 rfl rfl (by decide) (by rfl) rfl (s_313_5 (i := i) (by omega) ?_)
      refine xK_v rfl ?_
      refine xs_f 21 (lv2 := [(3, _), (0, _), (1, _), (2, _)]) r_45_20 rfl ?_
      refine xs_f 22 r_45_21 rfl ?_
      refine xs_call (lv2 := [(0, _)]) r_45_22 rfl rfl (by decide) (xcan_1 rfl) rfl (e_47 (fun hg => ?_) (fun hg => ?_))
      · refine xK_v rfl ?_
        refine xs_f 28 r_45_25 rfl ?_
        obtain ⟨m9, hm9, emx, ecl⟩ := dgt_nat hg
        refine xs_f 29 r_45_28 rfl ?_
        refine xs_f 30 r_45_29 rfl ?_
        refine xs_f 32 r_45_30 rfl ?_
        refine xs_f 33 r_45_32 rfl ?_
        refine xs_call (lv2 := [(0, _), (1, _)]) r_45_33 rfl rfl (by decide) (xcan_0 rfl rfl (by first | assumption | exact xup_s | exact o1 | (refine (xup_n (by omega)).trans ?_; first | assumption | exact xup_s | exact o1) | (refine (xup_n (by omega)).trans ((xup_n (by omega)).trans ?_); first | assumption | exact xup_s | exact o1) | (refine (xup_n (by omega)).trans ((xup_n (by omega)).trans ((xup_n (by omega)).trans ?_)); first | assumption | exact xup_s | exact o1)) (by rfl)) rfl (xP_lv [(0, .ref t), (1, .int (nI m9))] rfl ⟨rfl, (congrArg (fun z => some (Value.int z)) emx), trivial⟩ (e_46 (h := (f, h.2)) hT1 h32 hm9 hpn (fun j9 d9 j0 c6 f2 x2 y2 => ?_) (fun j9 d9 j0 f2 x2 y2 => ?_)))
        · have hs : (rdF Bu n (fun i => (xfB 5).getD i 0) (true, (p, (0, nu))) (i + 1)) = _ := stF_d ht hg ecl d9 j0 c6
          have hq : (rdF Bu n (fun i => (xfB 5).getD i 0) (true, (p, (0, nu))) i).2.1 + j9 ≤ n := d9.2.1
          refine xK_v rfl ?_
          refine xs_f 44 r_45_36 rfl ?_
          refine xs_f 46 (lv2 := [(4, _), (3, _), (0, _), (1, _), (2, _)]) r_45_44 rfl ?_
          refine xs_f 48 r_45_46 rfl ?_
          refine xs_f 53 r_45_48 rfl ?_
          refine xs_f 56 (lv2 := [(2, _), (4, _), (3, _), (0, _), (1, _)]) r_45_53 rfl ?_
          refine xs_f 7 r_45_56 rfl ?_
          exact xP_lv [(0, .ref t), (1, .ref 21), (2, .int (nI (i + 1)))] rfl ⟨rfl, rfl, (by rw [nI_succ]; rfl), trivial⟩ (ih (i + 1) f2 (by omega) (by omega) (by rw [hs]) (by rw [hs]; exact hq) (by rw [hs]; exact x2) (hF.tr y2))
        · have hs : (rdF Bu n (fun i => (xfB 5).getD i 0) (true, (p, (0, nu))) (i + 1)) = _ := stF_e ht hg ecl d9 j0
          have hq : (rdF Bu n (fun i => (xfB 5).getD i 0) (true, (p, (0, nu))) i).2.1 + j9 ≤ n := d9.2.1
          refine xK_v rfl ?_
          refine xs_f 44 r_45_36 rfl ?_
          refine xs_f 46 (lv2 := [(4, _), (3, _), (0, _), (1, _), (2, _)]) r_45_44 rfl ?_
          refine xs_f 48 r_45_46 rfl ?_
          refine xs_f 51 r_45_48 rfl ?_
          refine xs_f 52 r_45_51 rfl ?_
          refine xs_ret r_45_52 rfl ?_
          have e9 := rdF_f (i := i + 1) (by rw [hs]) 5 (by omega)
          rw [e9, hs] at k
          first
            | exact k f2 x2 hq (hF.tr y2)
            | exact k f hT1 hpn hF
      · refine xK_v rfl ?_
        refine xs_f 39 r_45_25 rfl ?_
        refine xs_f 40 r_45_39 rfl ?_
        refine xs_f 41 r_45_40 rfl ?_
        refine xs_call (lv2 := [(0, _), (1, _)]) r_45_41 rfl rfl (by decide) (xcan_0 rfl rfl (by first | assumption | exact xup_s | exact o1 | (refine (xup_n (by omega)).trans ?_; first | assumption | exact xup_s | exact o1) | (refine (xup_n (by omega)).trans ((xup_n (by omega)).trans ?_); first | assumption | exact xup_s | exact o1) | (refine (xup_n (by omega)).trans ((xup_n (by omega)).trans ((xup_n (by omega)).trans ?_)); first | assumption | exact xup_s | exact o1)) (by rfl)) rfl (e_44 (h := (f, h.2)) hT1 h32 (fun l9 b9 f2 x2 y2 => ?_) (fun l9 => ?_))
        · have hs : (rdF Bu n (fun i => (xfB 5).getD i 0) (true, (p, (0, nu))) (i + 1)) = _ := stF_s ht hg l9 b9
          have hq : (rdF Bu n (fun i => (xfB 5).getD i 0) (true, (p, (0, nu))) i).2.1 + 1 ≤ n := l9
          have y2 := y2.wd (a := t) (b := t + 3) (by omega) (by omega)
          refine xK_v rfl ?_
          refine xs_f 46 (lv2 := [(4, _), (3, _), (0, _), (1, _), (2, _)]) r_45_44 rfl ?_
          refine xs_f 48 r_45_46 rfl ?_
          refine xs_f 53 r_45_48 rfl ?_
          refine xs_f 56 (lv2 := [(2, _), (4, _), (3, _), (0, _), (1, _)]) r_45_53 rfl ?_
          refine xs_f 7 r_45_56 rfl ?_
          exact xP_lv [(0, .ref t), (1, .ref 21), (2, .int (nI (i + 1)))] rfl ⟨rfl, rfl, (by rw [nI_succ]; rfl), trivial⟩ (ih (i + 1) f2 (by omega) (by omega) (by rw [hs]) (by rw [hs]; exact hq) (by rw [hs]; exact x2) (hF.tr y2))
        · have hs : (rdF Bu n (fun i => (xfB 5).getD i 0) (true, (p, (0, nu))) (i + 1)) = _ := stF_n ht hg l9
          refine xK_v rfl ?_
          refine xs_f 46 (lv2 := [(4, _), (3, _), (0, _), (1, _), (2, _)]) r_45_44 rfl ?_
          refine xs_f 48 r_45_46 rfl ?_
          refine xs_f 51 r_45_48 rfl ?_
          refine xs_f 52 r_45_51 rfl ?_
          refine xs_ret r_45_52 rfl ?_
          have e9 := rdF_f (i := i + 1) (by rw [hs]) 5 (by omega)
          rw [e9, hs] at k
          first
            | exact k f2 x2 hq (hF.tr y2)
            | exact k f hT1 hpn hF

theorem e_45_5 {S : XSc} {d : Nat} {h : XH} {Q : XO → XH → Prop} {t n p c : Nat} {Bu nu : Nat → Int32} (hT : TxP h.1 t n p c Bu nu) (h32 : 32 ≤ t) (hp : p ≤ n) (k : ∀ f, TxP f t n (rdF Bu n (fun i => (xfB 5).getD i 0) (true, (p, (0, nu))) 5).2.1 (rdF Bu n (fun i => (xfB 5).getD i 0) (true, (p, (0, nu))) 5).2.2.1 Bu (rdF Bu n (fun i => (xfB 5).getD i 0) (true, (p, (0, nu))) 5).2.2.2 → (rdF Bu n (fun i => (xfB 5).getD i 0) (true, (p, (0, nu))) 5).2.1 ≤ n → Fr h.1 f t (t + 3) → Q (.inl (some (.int (bI (rdF Bu n (fun i => (xfB 5).getD i 0) (true, (p, (0, nu))) 5).1)))) (f, h.2)) : xP S (d + 4) 45 0 [(0, .ref t), (1, .ref 21)] [] h Q := by
  obtain ⟨t1, t2, t3, t4, t5, t6⟩ := id hT
  refine xs_f 1 r_45_0 rfl ?_
  refine xs_f 2 r_45_1 rfl ?_
  refine xs_putC 5 r_45_2 rfl (by first | assumption | exact xup_s | exact t1 | (refine (xup_n (by omega)).trans ?_; first | assumption | exact xup_s | exact t1) | (refine (xup_n (by omega)).trans ((xup_n (by omega)).trans ?_); first | assumption | exact xup_s | exact t1) | (refine (xup_n (by omega)).trans ((xup_n (by omega)).trans ((xup_n (by omega)).trans ?_)); first | assumption | exact xup_s | exact t1)) (by rfl) (by rfl) (fun f1 x1 y1 => ?_)
  refine xs_f 6 r_45_5 rfl ?_
  refine xs_f 7 (lv2 := [(2, _), (0, _), (1, _)]) r_45_6 rfl ?_
  exact xP_lv [(0, .ref t), (1, .ref 21), (2, .int (nI 0))] rfl ⟨rfl, rfl, rfl, trivial⟩ (el_45_5 (h := h) hT h32 hp k 6 0 f1 (by omega) (by omega) rfl hp ⟨x1, t2.fr (y1 _ (by omega)), t3.fr (y1 _ (by omega)), t4, t5, Nat.zero_le 6⟩ (y1.wd (by omega) (by omega)))

