/-! coverage: the sweep's walk -/
theorem insV_nI {v : Nat → Int32} {A : Nat → Nat} {p x n : Nat} (hp : p ≤ n) (hv : ∀ j, j < n → v j = nI (A j)) : ∀ j, j < n + 1 → insV v p (nI x) n j = nI (insV A p x n j) := by
  intro j hj
  rcases Nat.lt_trichotomy j p with z | z | z
  · rw [insV_lt z, insV_lt z]; exact hv j (by omega)
  · subst z; rw [insV_eq, insV_eq]
  · rw [insV_gt z (by omega), insV_gt z (by omega)]; exact hv _ (by omega)
theorem insV_le {A : Nat → Nat} {p x n M : Nat} (hp : p ≤ n) (hA : ∀ j, j < n → A j ≤ M) (hx : x ≤ M) : ∀ j, j < n + 1 → insV A p x n j ≤ M := by
  intro j hj
  rcases Nat.lt_trichotomy j p with z | z | z
  · rw [insV_lt z]; exact hA j (by omega)
  · subst z; rw [insV_eq]; exact hx
  · rw [insV_gt z (by omega)]; exact hA _ (by omega)
def shV (v : Nat → Int32) (t n : Nat) : Nat → Int32 := fun j => if t < j ∧ j ≤ n then v (j - 1) else v j
theorem vl_56 {S : XSc} {d : Nat} {h : XH} {Q : XO → XH → Prop} {a n x : Nat} {v : Nat → Int32} {A : Nat → Nat} (h32 : 32 ≤ a) (hn : n < 5) (hx : x ≤ 999) (hv : ∀ j, j < n → v j = nI (A j)) (hA : ∀ j, j < n → A j ≤ 999) (hs : srt A n) (k : ∀ f p, p ≤ n → (∀ j, p ≤ j → j < n → x < A j) → (∀ j, j < p → A j ≤ x) → IA f 0 a 5 (insV v p (nI x) n) → Fr h.1 f a (a + 1) → Q (.inl none) (f, h.2)) : ∀ (m : Nat) (t : Nat) (f : Nat → Option XE), t < m → (t ≤ n) → (∀ j, t ≤ j → j < n → x < A j) → (IA f 0 a 5 (shV v t n)) → (Fr h.1 f a (a + 1)) → xP S d 56 2 [(0, .ref a), (1, .int (nI n)), (2, .int (nI x)), (3, .int (nI t))] [] (f, h.2) Q := by
  intro m
  induction m with
  | zero => intro t f hm; exact absurd hm (Nat.not_lt_zero _)
  | succ m ih =>
    intro t f hm ht hgt hf hF
    have he : 1 ≤ t → shV v t n (t - 1) = nI (A (t - 1)) := fun z => (if_neg (by omega)).trans (hv _ (by omega))
    have hA1 : 1 ≤ t → A (t - 1) ≤ 999 := fun z => hA _ (by omega)
    refine xs_f 3 r_56_2 rfl ?_
    refine xs_if 29 6 r_56_3 rfl (fun hc1 => ?_) (fun hc1 => ?_)
    · have hc1 := (nI_leN rfl (nI_k 0) (by omega) (by omega)).mp hc1
      refine xs_f 30 r_56_29 rfl ?_
      refine xs_f 31 r_56_30 rfl ?_
      refine xs_f 32 r_56_31 rfl ?_
      refine xs_astI 33 r_56_32 (fun _ _ => rfl) rfl rfl rfl (j := t) rfl (by first | assumption | (refine IA.fr ?_ (xup_n (by omega)); first | assumption) | (refine IA.fr (IA.fr ?_ (xup_n (by omega))) (xup_n (by omega)); first | assumption) | (refine IA.fr (IA.fr (IA.fr ?_ (xup_n (by omega))) (xup_n (by omega))) (xup_n (by omega)); first | assumption)) (by omega) (fun f1 x1 y1 => ?_)
      refine xs_ret r_56_33 rfl ?_
      first
        | (exact k f1 t ht hgt (fun j hj => absurd hj (by omega)) (x1.ex (fun j hj => by
             unfold xw shV insV
             (repeat' split) <;> first | rfl | (exfalso; omega))) (hF.tr y1))
        | (exact k f1 t ht hgt (fun j hj => by
             by_cases z : j = t - 1
             · rw [z]; omega
             · have := hs j (t - 1) (by omega) (by omega); omega) (x1.ex (fun j hj => by
             unfold xw shV insV
             (repeat' split) <;> first | rfl | (exfalso; omega))) (hF.tr y1))
    · have hc1 := mt (nI_leN rfl (nI_k 0) (by omega) (by omega)).mpr hc1
      refine xs_f 7 r_56_6 rfl ?_
      refine xs_f 8 r_56_7 rfl ?_
      refine xs_f 9 r_56_8 rfl ?_
      refine xs_f 10 r_56_9 rfl ?_
      refine xs_aldI 11 r_56_10 (fun _ _ => rfl) rfl rfl rfl (j := (t - 1)) (nI_subE rfl (nI_k 1) (by omega)) (by first | assumption | (refine IA.fr ?_ (xup_n (by omega)); first | assumption) | (refine IA.fr (IA.fr ?_ (xup_n (by omega))) (xup_n (by omega)); first | assumption) | (refine IA.fr (IA.fr (IA.fr ?_ (xup_n (by omega))) (xup_n (by omega))) (xup_n (by omega)); first | assumption)) (by omega) ?_
      rw [he (by omega)]
      have hA2 := hA1 (by omega)
      refine xs_f 12 r_56_11 rfl ?_
      refine xs_if 29 15 r_56_12 rfl (fun hc2 => ?_) (fun hc2 => ?_)
      · have hc2 := (nI_leN rfl rfl (by omega) (by omega)).mp hc2
        refine xs_f 30 r_56_29 rfl ?_
        refine xs_f 31 r_56_30 rfl ?_
        refine xs_f 32 r_56_31 rfl ?_
        refine xs_astI 33 r_56_32 (fun _ _ => rfl) rfl rfl rfl (j := t) rfl (by first | assumption | (refine IA.fr ?_ (xup_n (by omega)); first | assumption) | (refine IA.fr (IA.fr ?_ (xup_n (by omega))) (xup_n (by omega)); first | assumption) | (refine IA.fr (IA.fr (IA.fr ?_ (xup_n (by omega))) (xup_n (by omega))) (xup_n (by omega)); first | assumption)) (by omega) (fun f1 x1 y1 => ?_)
        refine xs_ret r_56_33 rfl ?_
        first
          | (exact k f1 t ht hgt (fun j hj => absurd hj (by omega)) (x1.ex (fun j hj => by
               unfold xw shV insV
               (repeat' split) <;> first | rfl | (exfalso; omega))) (hF.tr y1))
          | (exact k f1 t ht hgt (fun j hj => by
               by_cases z : j = t - 1
               · rw [z]; omega
               · have := hs j (t - 1) (by omega) (by omega); omega) (x1.ex (fun j hj => by
               unfold xw shV insV
               (repeat' split) <;> first | rfl | (exfalso; omega))) (hF.tr y1))
      · have hc2 := mt (nI_leN rfl rfl (by omega) (by omega)).mpr hc2
        refine xs_f 16 r_56_15 rfl ?_
        refine xs_f 17 r_56_16 rfl ?_
        refine xs_f 18 r_56_17 rfl ?_
        refine xs_f 19 r_56_18 rfl ?_
        refine xs_f 20 r_56_19 rfl ?_
        refine xs_f 21 r_56_20 rfl ?_
        refine xs_aldI 22 r_56_21 (fun _ _ => rfl) rfl rfl rfl (j := (t - 1)) (nI_subE rfl (nI_k 1) (by omega)) (by first | assumption | (refine IA.fr ?_ (xup_n (by omega)); first | assumption) | (refine IA.fr (IA.fr ?_ (xup_n (by omega))) (xup_n (by omega)); first | assumption) | (refine IA.fr (IA.fr (IA.fr ?_ (xup_n (by omega))) (xup_n (by omega))) (xup_n (by omega)); first | assumption)) (by omega) ?_
        rw [he (by omega), ← hv (t - 1) (by omega)]
        refine xs_astI 23 r_56_22 (fun _ _ => rfl) rfl rfl rfl (j := t) rfl (by first | assumption | (refine IA.fr ?_ (xup_n (by omega)); first | assumption) | (refine IA.fr (IA.fr ?_ (xup_n (by omega))) (xup_n (by omega)); first | assumption) | (refine IA.fr (IA.fr (IA.fr ?_ (xup_n (by omega))) (xup_n (by omega))) (xup_n (by omega)); first | assumption)) (by omega) (fun f1 x1 y1 => ?_)
        refine xs_f 26 (lv2 := [(3, _), (0, _), (1, _), (2, _)]) r_56_23 rfl ?_
        refine xs_f 2 r_56_26 rfl ?_
        exact xP_lv [(0, .ref a), (1, .int (nI n)), (2, .int (nI x)), (3, .int (nI (t - 1)))] rfl ⟨rfl, rfl, rfl, (by rw [← nI_decE (x := nI t) rfl 1 (by omega)]; rfl), trivial⟩ (ih (t - 1) f1 (by omega) (by omega) (fun j h1 h2 => by
            by_cases z : j = t - 1
            · rw [z]; omega
            · exact hgt j (by omega) h2) (x1.ex (fun j hj => by
            unfold xw shV
            (repeat' split) <;> first | rfl | (exfalso; omega) | (congr 1; omega))) (hF.tr y1))

theorem v_56 {S : XSc} {d : Nat} {h : XH} {Q : XO → XH → Prop} {a n x : Nat} {v : Nat → Int32} {A : Nat → Nat} (h32 : 32 ≤ a) (hn : n < 5) (hx : x ≤ 999) (hv : ∀ j, j < n → v j = nI (A j)) (hA : ∀ j, j < n → A j ≤ 999) (hs : srt A n) (hf : IA h.1 0 a 5 v) (k : ∀ f p, p ≤ n → (∀ j, p ≤ j → j < n → x < A j) → (∀ j, j < p → A j ≤ x) → IA f 0 a 5 (insV v p (nI x) n) → Fr h.1 f a (a + 1) → Q (.inl none) (f, h.2)) : xP S d 56 0 [(0, .ref a), (1, .int (nI n)), (2, .int (nI x))] [] h Q := by
  refine xs_f 1 r_56_0 rfl ?_
  refine xs_f 2 (lv2 := [(3, _), (0, _), (1, _), (2, _)]) r_56_1 rfl ?_
  exact xP_lv [(0, .ref a), (1, .int (nI n)), (2, .int (nI x)), (3, .int (nI n))] rfl ⟨rfl, rfl, rfl, rfl, trivial⟩ (vl_56 h32 hn hx hv hA hs k (n + 1) n h.1 (by omega) (by omega) (fun j h1 h2 => by omega) (hf.ex (fun j hj => (if_neg (by omega)).symm)) Fr.rf)

def swI (A : Nat → Nat) (o : Option Nat) : Int32 := match o with
  | none => -1
  | some j => nI (A j)
theorem cB_le {L U A B : Nat → Nat} {n : Nat} (hLU : ∀ r, r < n → L r ≤ U r) (sA : srt A n) (cA : ∀ x, cntB (fun j => decide (A j ≤ x)) n = cntB (fun r => decide (L r ≤ x)) n) (cB : ∀ x, cntB (fun j => decide (B j < x)) n = cntB (fun r => decide (U r < x)) n) {b : Nat} (hb : b < n) : cntB (fun j => decide (B j < A b)) n ≤ b := by
  rw [cB]
  rcases Nat.eq_zero_or_pos (A b) with z | z
  · rw [z]
    have : ∀ m, cntB (fun r => decide (U r < 0)) m = 0 := by
      intro m
      induction m with
      | zero => rfl
      | succ m ih => rw [cntB_s, decide_eq_false (Nat.not_lt_zero _), ih]; rfl
    rw [this]
    omega
  · have h1 : ∀ m, m ≤ n → cntB (fun r => decide (U r < A b)) m ≤ cntB (fun r => decide (L r ≤ A b - 1)) m := by
      intro m
      induction m with
      | zero => intro _; exact Nat.le_refl _
      | succ m ih =>
        intro hm
        have i := ih (by omega)
        have h4 := hLU m (by omega)
        rw [cntB_s, cntB_s]
        by_cases y : U m < A b
        · rw [decide_eq_true y, decide_eq_true (by omega), cond_true, cond_true]; omega
        · rw [decide_eq_false y, cond_false]
          cases decide (L m ≤ A b - 1)
          · exact i
          · exact Nat.le_succ_of_le i
    have h2 := h1 n (Nat.le_refl _)
    rw [← cA] at h2
    have h3 := srt_cnt (A := A) (n := n) (fun y => decide (y ≤ A b - 1)) (fun j hj h => decide_eq_true (Nat.le_trans (sA j (j + 1) (by omega) hj) (of_decide_eq_true h))) n (Nat.le_refl _) b hb
    have h4 : ¬ b < cntB (fun j => decide (A j ≤ A b - 1)) n := fun y => by
      have := of_decide_eq_true (h3.mpr y)
      omega
    omega
theorem vl_51c {S : XSc} {d : Nat} {h : XH} {Q : XO → XH → Prop} {c a : Nat} {W : Nat → Nat → Int64} {lo hi : Nat → Int32} {num wt : Int32} {n : Nat} {E : Nat → XEst} {r : Nat → Nat} {L U A B : Nat → Nat} (h32 : 32 ≤ c) (hC : CvP h.1 c W lo hi) (hq1 : h.1 a = some (.inr (7, [.ref (a + 1), .int num, .int wt, .int (nI n)]))) (hn5 : n ≤ 5) (hE : endsE E n L U) (hlo : ∀ j, j < n → lo j = nI (A j)) (hhi : ∀ j, j < n → hi j = nI (B j)) (hA : ∀ j, j < n → A j ≤ 999) (hB : ∀ j, j < n → B j ≤ 999) (sA : srt A n) (sB : srt B n) (cA : ∀ x, cntB (fun j => decide (A j ≤ x)) n = cntB (fun r => decide (L r ≤ x)) n) (cB : ∀ x, cntB (fun j => decide (B j < x)) n = cntB (fun r => decide (U r < x)) n) {b : Nat} (hb : b < n) (k : ∀ e, e ≤ n → (∀ j, j < e → B j < A b) → e = cntB (fun i => decide (B i < A b)) n → xP S d 51 101 [(0, .ref c), (1, .ref a), (2, .int (swI A (swp (fun b => b + 1 - cntB (fun i => decide (B i < A b)) n) b))), (3, .int (nI (swM (fun b => b + 1 - cntB (fun i => decide (B i < A b)) n) (swp (fun b => b + 1 - cntB (fun i => decide (B i < A b)) n) b)))), (4, .int (nI e)), (5, .int (nI b))] [] h Q) : ∀ (m : Nat) (e : Nat), n - e < m → (e ≤ n) → (∀ j, j < e → B j < A b) → xP S d 51 69 [(0, .ref c), (1, .ref a), (2, .int (swI A (swp (fun b => b + 1 - cntB (fun i => decide (B i < A b)) n) b))), (3, .int (nI (swM (fun b => b + 1 - cntB (fun i => decide (B i < A b)) n) (swp (fun b => b + 1 - cntB (fun i => decide (B i < A b)) n) b)))), (4, .int (nI e)), (5, .int (nI b))] [] h Q := by
  intro m
  induction m with
  | zero => intro e hm; exact absurd hm (Nat.not_lt_zero _)
  | succ m ih =>
    intro e hm he hl
    have hAb := hA b hb
    have hBe : e < n → B e ≤ 999 := fun z => hB e z
    have hcn := cntB_le (fun i => decide (B i < A b)) n
    have h3 := srt_cnt (A := B) (n := n) (fun y => decide (y < A b)) (fun j hj h => decide_eq_true (Nat.lt_of_le_of_lt (sB j (j + 1) (by omega) hj) (of_decide_eq_true h))) n (Nat.le_refl _)
    have hge : e ≤ cntB (fun i => decide (B i < A b)) n := by
      rcases Nat.eq_zero_or_pos e with z | z
      · omega
      · have := (h3 (e - 1) (by omega)).mp (decide_eq_true (hl _ (by omega)))
        omega
    refine xs_f 71 r_51_69 rfl ?_
    refine xs_f 72 r_51_71 rfl ?_
    refine xs_get 75 r_51_72 rfl rfl (by first | assumption | exact xup_s | exact hq1 | exact hC.1 | (refine (xup_n (by omega)).trans ?_; first | assumption | exact xup_s | exact hq1 | exact hC.1) | (refine (xup_n (by omega)).trans ((xup_n (by omega)).trans ?_); first | assumption | exact xup_s | exact hq1 | exact hC.1) | (refine (xup_n (by omega)).trans ((xup_n (by omega)).trans ((xup_n (by omega)).trans ?_)); first | assumption | exact xup_s | exact hq1 | exact hC.1)) (by rfl) ?_
    refine xs_if 101 78 r_51_75 rfl (fun hc1 => ?_) (fun hc1 => ?_)
    · have hc1 := (nI_leN rfl rfl (by omega) (by omega)).mp hc1
      first
        | exact k e he hl (by omega)
        | exact k e he hl (by
            have h5 : ¬ e < cntB (fun i => decide (B i < A b)) n := fun y => by
              have := of_decide_eq_true ((h3 e (by omega)).mpr y)
              omega
            omega)
    · have hc1 := mt (nI_leN rfl rfl (by omega) (by omega)).mpr hc1
      refine xs_f 79 r_51_78 rfl ?_
      refine xs_get 82 r_51_79 rfl rfl (by first | assumption | exact xup_s | exact hq1 | exact hC.1 | (refine (xup_n (by omega)).trans ?_; first | assumption | exact xup_s | exact hq1 | exact hC.1) | (refine (xup_n (by omega)).trans ((xup_n (by omega)).trans ?_); first | assumption | exact xup_s | exact hq1 | exact hC.1) | (refine (xup_n (by omega)).trans ((xup_n (by omega)).trans ((xup_n (by omega)).trans ?_)); first | assumption | exact xup_s | exact hq1 | exact hC.1)) (by rfl) ?_
      refine xs_f 84 r_51_82 rfl ?_
      have hBe2 := hBe (by omega)
      refine xs_aldI 85 r_51_84 (fun _ _ => rfl) rfl rfl rfl (j := e) rfl (by first | assumption | exact hC.2.2.2.1 | exact hC.2.2.2.2 | (refine IA.fr ?_ (xup_n (by omega)); first | assumption | exact hC.2.2.2.1 | exact hC.2.2.2.2) | (refine IA.fr (IA.fr ?_ (xup_n (by omega))) (xup_n (by omega)); first | assumption | exact hC.2.2.2.1 | exact hC.2.2.2.2) | (refine IA.fr (IA.fr (IA.fr ?_ (xup_n (by omega))) (xup_n (by omega))) (xup_n (by omega)); first | assumption | exact hC.2.2.2.1 | exact hC.2.2.2.2)) (by omega) ?_
      rw [hhi e (by omega)]
      refine xs_f 86 r_51_85 rfl ?_
      refine xs_get 89 r_51_86 rfl rfl (by first | assumption | exact xup_s | exact hq1 | exact hC.1 | (refine (xup_n (by omega)).trans ?_; first | assumption | exact xup_s | exact hq1 | exact hC.1) | (refine (xup_n (by omega)).trans ((xup_n (by omega)).trans ?_); first | assumption | exact xup_s | exact hq1 | exact hC.1) | (refine (xup_n (by omega)).trans ((xup_n (by omega)).trans ((xup_n (by omega)).trans ?_)); first | assumption | exact xup_s | exact hq1 | exact hC.1)) (by rfl) ?_
      refine xs_f 91 r_51_89 rfl ?_
      refine xs_aldI 92 r_51_91 (fun _ _ => rfl) rfl rfl rfl (j := b) rfl (by first | assumption | exact hC.2.2.2.1 | exact hC.2.2.2.2 | (refine IA.fr ?_ (xup_n (by omega)); first | assumption | exact hC.2.2.2.1 | exact hC.2.2.2.2) | (refine IA.fr (IA.fr ?_ (xup_n (by omega))) (xup_n (by omega)); first | assumption | exact hC.2.2.2.1 | exact hC.2.2.2.2) | (refine IA.fr (IA.fr (IA.fr ?_ (xup_n (by omega))) (xup_n (by omega))) (xup_n (by omega)); first | assumption | exact hC.2.2.2.1 | exact hC.2.2.2.2)) (by omega) ?_
      rw [hlo b (by omega)]
      refine xs_if 101 95 r_51_92 rfl (fun hc2 => ?_) (fun hc2 => ?_)
      · have hc2 := (nI_leN rfl rfl (by omega) (by omega)).mp hc2
        first
          | exact k e he hl (by omega)
          | exact k e he hl (by
              have h5 : ¬ e < cntB (fun i => decide (B i < A b)) n := fun y => by
                have := of_decide_eq_true ((h3 e (by omega)).mpr y)
                omega
              omega)
      · have hc2 := mt (nI_leN rfl rfl (by omega) (by omega)).mpr hc2
        refine xs_f 98 (lv2 := [(4, _), (0, _), (1, _), (2, _), (3, _), (5, _)]) r_51_95 rfl ?_
        refine xs_f 69 r_51_98 rfl ?_
        exact xP_lv [(0, .ref c), (1, .ref a), (2, .int (swI A (swp (fun b => b + 1 - cntB (fun i => decide (B i < A b)) n) b))), (3, .int (nI (swM (fun b => b + 1 - cntB (fun i => decide (B i < A b)) n) (swp (fun b => b + 1 - cntB (fun i => decide (B i < A b)) n) b)))), (4, .int (nI (e + 1))), (5, .int (nI b))] rfl ⟨rfl, rfl, rfl, rfl, (by rw [nI_succ e]; rfl), rfl, trivial⟩ (ih (e + 1) (by omega) (by omega) (fun j hj => by
            by_cases z : j = e
            · rw [z]; omega
            · exact hl j (by omega)))

theorem vl_51b {S : XSc} {d : Nat} {h : XH} {Q : XO → XH → Prop} {c a : Nat} {W : Nat → Nat → Int64} {lo hi : Nat → Int32} {num wt : Int32} {n : Nat} {E : Nat → XEst} {r : Nat → Nat} {L U A B : Nat → Nat} (h32 : 32 ≤ c) (hC : CvP h.1 c W lo hi) (hq1 : h.1 a = some (.inr (7, [.ref (a + 1), .int num, .int wt, .int (nI n)]))) (hn5 : n ≤ 5) (hE : endsE E n L U) (hlo : ∀ j, j < n → lo j = nI (A j)) (hhi : ∀ j, j < n → hi j = nI (B j)) (hA : ∀ j, j < n → A j ≤ 999) (hB : ∀ j, j < n → B j ≤ 999) (sA : srt A n) (sB : srt B n) (cA : ∀ x, cntB (fun j => decide (A j ≤ x)) n = cntB (fun r => decide (L r ≤ x)) n) (cB : ∀ x, cntB (fun j => decide (B j < x)) n = cntB (fun r => decide (U r < x)) n) (k : Q (.inl (some (.int (if 0 < n then nI (mstV E n 999).1 else -1)))) h) : ∀ (m : Nat) (b : Nat) (e : Nat), n - b < m → (b ≤ n) → (e ≤ n) → (b < n → ∀ j, j < e → B j < A b) → xP S d 51 60 [(0, .ref c), (1, .ref a), (2, .int (swI A (swp (fun b => b + 1 - cntB (fun i => decide (B i < A b)) n) b))), (3, .int (nI (swM (fun b => b + 1 - cntB (fun i => decide (B i < A b)) n) (swp (fun b => b + 1 - cntB (fun i => decide (B i < A b)) n) b)))), (4, .int (nI e)), (5, .int (nI b))] [] h Q := by
  intro m
  induction m with
  | zero => intro b e hm; exact absurd hm (Nat.not_lt_zero _)
  | succ m ih =>
    intro b e hm hb he hl
    have hsw : swM (fun b => b + 1 - cntB (fun i => decide (B i < A b)) n) (swp (fun b => b + 1 - cntB (fun i => decide (B i < A b)) n) b) ≤ 10 := by
      cases hs : swp (fun b => b + 1 - cntB (fun i => decide (B i < A b)) n) b with
      | none => exact Nat.zero_le _
      | some j =>
        have := ((swp_inv (fun b => b + 1 - cntB (fun i => decide (B i < A b)) n) b).2 j hs).1
        show j + 1 - _ ≤ 10
        omega
    refine xs_f 62 r_51_60 rfl ?_
    refine xs_f 63 r_51_62 rfl ?_
    refine xs_get 66 r_51_63 rfl rfl (by first | assumption | exact xup_s | exact hq1 | exact hC.1 | (refine (xup_n (by omega)).trans ?_; first | assumption | exact xup_s | exact hq1 | exact hC.1) | (refine (xup_n (by omega)).trans ((xup_n (by omega)).trans ?_); first | assumption | exact xup_s | exact hq1 | exact hC.1) | (refine (xup_n (by omega)).trans ((xup_n (by omega)).trans ((xup_n (by omega)).trans ?_)); first | assumption | exact xup_s | exact hq1 | exact hC.1)) (by rfl) ?_
    refine xs_if 134 69 r_51_66 rfl (fun hc1 => ?_) (fun hc1 => ?_)
    · have hc1 := (nI_leN rfl rfl (by omega) (by omega)).mp hc1
      refine xs_f 135 r_51_134 rfl ?_
      refine xs_ret r_51_135 rfl ?_
      have e9 : b = n := by omega
      subst e9
      rcases Nat.eq_zero_or_pos b with z | z
      · subst z
        exact k
      · obtain ⟨j, j1, j2, j3⟩ := sweep_best hE z sA sB cA cB
        rw [j2]
        rw [if_pos z, j3] at k
        exact k
    · have hc1 := mt (nI_leN rfl rfl (by omega) (by omega)).mpr hc1
      refine vl_51c (r := r) h32 hC hq1 hn5 hE hlo hhi hA hB sA sB cA cB (b := b) (by omega) (fun e2 he2 hl2 hc2 => ?_) (n + 1) e (by omega) he (hl (by omega))
      have hcb := cB_le (fun r hr => (hE r hr).2.2.1) sA cA cB (b := b) (by omega)
      refine xs_f 103 r_51_101 rfl ?_
      refine xs_f 104 r_51_103 rfl ?_
      refine xs_f 105 r_51_104 rfl ?_
      refine xs_f 107 r_51_105 rfl ?_
      refine xs_f 108 r_51_107 rfl ?_
      refine xs_f 109 r_51_108 rfl ?_
      refine xs_if 128 112 r_51_109 rfl (fun hm => ?_) (fun hm => ?_)
      · have hm := (nI_leN (nI_subE (nI_addE rfl (nI_k 1)) rfl (by omega)) rfl (by omega) (by omega)).mp hm
        refine xs_f 131 (lv2 := [(5, _), (0, _), (1, _), (2, _), (3, _), (4, _)]) r_51_128 rfl ?_
        refine xs_f 60 r_51_131 rfl ?_
        first
          | exact xP_lv [(0, .ref c), (1, .ref a), (2, .int (swI A (swp (fun b => b + 1 - cntB (fun i => decide (B i < A b)) n) (b + 1)))), (3, .int (nI (swM (fun b => b + 1 - cntB (fun i => decide (B i < A b)) n) (swp (fun b => b + 1 - cntB (fun i => decide (B i < A b)) n) (b + 1))))), (4, .int (nI e2)), (5, .int (nI (b + 1)))] rfl ⟨rfl, rfl, (by rw [show swp (fun b => b + 1 - cntB (fun i => decide (B i < A b)) n) (b + 1) = some b from by rw [swp_s]; exact if_pos (by (try dsimp only); omega)]; rfl), (by rw [show swp (fun b => b + 1 - cntB (fun i => decide (B i < A b)) n) (b + 1) = some b from by rw [swp_s]; exact if_pos (by (try dsimp only); omega)]; show _ = some (Value.int (nI (b + 1 - cntB (fun i => decide (B i < A b)) n))); rw [← hc2, ← nI_subE (x := nI b + 1) (y := nI e2) (a := b + 1) (b := e2) (nI_addE rfl (nI_k 1)) rfl (by omega)]; rfl), rfl, (by rw [nI_succ b]; rfl), trivial⟩ (ih (b + 1) e2 (by omega) (by omega) he2 (fun hb2 j hj => Nat.lt_of_lt_of_le (hl2 j hj) (sA b (b + 1) (by omega) hb2)))
          | exact xP_lv [(0, .ref c), (1, .ref a), (2, .int (swI A (swp (fun b => b + 1 - cntB (fun i => decide (B i < A b)) n) (b + 1)))), (3, .int (nI (swM (fun b => b + 1 - cntB (fun i => decide (B i < A b)) n) (swp (fun b => b + 1 - cntB (fun i => decide (B i < A b)) n) (b + 1))))), (4, .int (nI e2)), (5, .int (nI (b + 1)))] rfl ⟨rfl, rfl, (by rw [show swp (fun b => b + 1 - cntB (fun i => decide (B i < A b)) n) (b + 1) = swp (fun b => b + 1 - cntB (fun i => decide (B i < A b)) n) b from by rw [swp_s]; exact if_neg (by (try dsimp only); omega)]; rfl), (by rw [show swp (fun b => b + 1 - cntB (fun i => decide (B i < A b)) n) (b + 1) = swp (fun b => b + 1 - cntB (fun i => decide (B i < A b)) n) b from by rw [swp_s]; exact if_neg (by (try dsimp only); omega)]; rfl), rfl, (by rw [nI_succ b]; rfl), trivial⟩ (ih (b + 1) e2 (by omega) (by omega) he2 (fun hb2 j hj => Nat.lt_of_lt_of_le (hl2 j hj) (sA b (b + 1) (by omega) hb2)))
      · have hm := mt (nI_leN (nI_subE (nI_addE rfl (nI_k 1)) rfl (by omega)) rfl (by omega) (by omega)).mpr hm
        refine xs_f 114 r_51_112 rfl ?_
        refine xs_f 115 r_51_114 rfl ?_
        refine xs_f 116 r_51_115 rfl ?_
        refine xs_f 118 r_51_116 rfl ?_
        refine xs_f 119 r_51_118 rfl ?_
        refine xs_f 120 (lv2 := [(3, _), (0, _), (1, _), (2, _), (4, _), (5, _)]) r_51_119 rfl ?_
        refine xs_f 121 r_51_120 rfl ?_
        refine xs_get 124 r_51_121 rfl rfl (by first | assumption | exact xup_s | exact hq1 | exact hC.1 | (refine (xup_n (by omega)).trans ?_; first | assumption | exact xup_s | exact hq1 | exact hC.1) | (refine (xup_n (by omega)).trans ((xup_n (by omega)).trans ?_); first | assumption | exact xup_s | exact hq1 | exact hC.1) | (refine (xup_n (by omega)).trans ((xup_n (by omega)).trans ((xup_n (by omega)).trans ?_)); first | assumption | exact xup_s | exact hq1 | exact hC.1)) (by rfl) ?_
        refine xs_f 126 r_51_124 rfl ?_
        refine xs_aldI 127 r_51_126 (fun _ _ => rfl) rfl rfl rfl (j := b) rfl (by first | assumption | exact hC.2.2.2.1 | exact hC.2.2.2.2 | (refine IA.fr ?_ (xup_n (by omega)); first | assumption | exact hC.2.2.2.1 | exact hC.2.2.2.2) | (refine IA.fr (IA.fr ?_ (xup_n (by omega))) (xup_n (by omega)); first | assumption | exact hC.2.2.2.1 | exact hC.2.2.2.2) | (refine IA.fr (IA.fr (IA.fr ?_ (xup_n (by omega))) (xup_n (by omega))) (xup_n (by omega)); first | assumption | exact hC.2.2.2.1 | exact hC.2.2.2.2)) (by omega) ?_
        rw [hlo b (by omega)]
        refine xs_f 128 (lv2 := [(2, _), (3, _), (0, _), (1, _), (4, _), (5, _)]) r_51_127 rfl ?_
        refine xs_f 131 (lv2 := [(5, _), (2, _), (3, _), (0, _), (1, _), (4, _)]) r_51_128 rfl ?_
        refine xs_f 60 r_51_131 rfl ?_
        first
          | exact xP_lv [(0, .ref c), (1, .ref a), (2, .int (swI A (swp (fun b => b + 1 - cntB (fun i => decide (B i < A b)) n) (b + 1)))), (3, .int (nI (swM (fun b => b + 1 - cntB (fun i => decide (B i < A b)) n) (swp (fun b => b + 1 - cntB (fun i => decide (B i < A b)) n) (b + 1))))), (4, .int (nI e2)), (5, .int (nI (b + 1)))] rfl ⟨rfl, rfl, (by rw [show swp (fun b => b + 1 - cntB (fun i => decide (B i < A b)) n) (b + 1) = some b from by rw [swp_s]; exact if_pos (by (try dsimp only); omega)]; rfl), (by rw [show swp (fun b => b + 1 - cntB (fun i => decide (B i < A b)) n) (b + 1) = some b from by rw [swp_s]; exact if_pos (by (try dsimp only); omega)]; show _ = some (Value.int (nI (b + 1 - cntB (fun i => decide (B i < A b)) n))); rw [← hc2, ← nI_subE (x := nI b + 1) (y := nI e2) (a := b + 1) (b := e2) (nI_addE rfl (nI_k 1)) rfl (by omega)]; rfl), rfl, (by rw [nI_succ b]; rfl), trivial⟩ (ih (b + 1) e2 (by omega) (by omega) he2 (fun hb2 j hj => Nat.lt_of_lt_of_le (hl2 j hj) (sA b (b + 1) (by omega) hb2)))
          | exact xP_lv [(0, .ref c), (1, .ref a), (2, .int (swI A (swp (fun b => b + 1 - cntB (fun i => decide (B i < A b)) n) (b + 1)))), (3, .int (nI (swM (fun b => b + 1 - cntB (fun i => decide (B i < A b)) n) (swp (fun b => b + 1 - cntB (fun i => decide (B i < A b)) n) (b + 1))))), (4, .int (nI e2)), (5, .int (nI (b + 1)))] rfl ⟨rfl, rfl, (by rw [show swp (fun b => b + 1 - cntB (fun i => decide (B i < A b)) n) (b + 1) = swp (fun b => b + 1 - cntB (fun i => decide (B i < A b)) n) b from by rw [swp_s]; exact if_neg (by (try dsimp only); omega)]; rfl), (by rw [show swp (fun b => b + 1 - cntB (fun i => decide (B i < A b)) n) (b + 1) = swp (fun b => b + 1 - cntB (fun i => decide (B i < A b)) n) b from by rw [swp_s]; exact if_neg (by (try dsimp only); omega)]; rfl), rfl, (by rw [nI_succ b]; rfl), trivial⟩ (ih (b + 1) e2 (by omega) (by omega) he2 (fun hb2 j hj => Nat.lt_of_lt_of_le (hl2 j hj) (sA b (b + 1) (by omega) hb2)))

theorem vl_51a {S : XSc} {d : Nat} {h : XH} {Q : XO → XH → Prop} {c : Nat} {W : Nat → Nat → Int64} (h32 : 32 ≤ c) {a : Nat} {num wt : Int32} {many : Nat} {E : Nat → XEst} {r : Nat → Nat} {L U : Nat → Nat} (hQ : QAt h.1 a num wt many E r) (h33 : 32 ≤ a) (hac : a + 7 ≤ c ∨ c + 10 ≤ a) (hE : endsE E many L U) (k : ∀ f lo2 hi2, CvP f c W lo2 hi2 → Fr h.1 f c (c + 10) → Q (.inl (some (.int (if 0 < many then nI (mstV E many 999).1 else -1)))) (f, h.2)) : ∀ (m : Nat) (i : Nat) (f : Nat → Option XE) (A : Nat → Nat) (B : Nat → Nat) (lo1 : Nat → Int32) (hi1 : Nat → Int32), many - i < m → (i ≤ many) → (CvP f c W lo1 hi1) → (Fr h.1 f c (c + 10)) → (∀ j, j < i → lo1 j = nI (A j)) → (∀ j, j < i → hi1 j = nI (B j)) → (∀ j, j < i → A j ≤ 999) → (∀ j, j < i → B j ≤ 999) → (srt A i) → (srt B i) → (∀ x, cntB (fun j => decide (A j ≤ x)) i = cntB (fun r => decide (L r ≤ x)) i) → (∀ x, cntB (fun j => decide (B j < x)) i = cntB (fun r => decide (U r < x)) i) → xP S (d + 1) 51 2 [(0, .ref c), (1, .ref a), (2, .int (nI i))] [] (f, h.2) Q := by
  intro m
  induction m with
  | zero => intro i f A B lo1 hi1 hm; exact absurd hm (Nat.not_lt_zero _)
  | succ m ih =>
    intro i f A B lo1 hi1 hm hi hC1 hF hlo hhi hA hB sA sB cA cB
    obtain ⟨q1, q2, q3, q5, q6, q7⟩ := hQ.fr (g := f) (fun x z1 z2 => hF x (by omega))
    refine xs_f 3 r_51_2 rfl ?_
    refine xs_f 4 r_51_3 rfl ?_
    refine xs_get 7 r_51_4 rfl rfl (by first | assumption | exact xup_s | exact q1 | exact hC1.1 | exact (q7 _ (by omega)) | exact hC2.1 | exact ((y1 _ (by omega)).trans q1) | exact ((y1 _ (by omega)).trans (q7 _ (by omega))) | (refine (xup_n (by omega)).trans ?_; first | assumption | exact xup_s | exact q1 | exact hC1.1 | exact (q7 _ (by omega)) | exact hC2.1 | exact ((y1 _ (by omega)).trans q1) | exact ((y1 _ (by omega)).trans (q7 _ (by omega)))) | (refine (xup_n (by omega)).trans ((xup_n (by omega)).trans ?_); first | assumption | exact xup_s | exact q1 | exact hC1.1 | exact (q7 _ (by omega)) | exact hC2.1 | exact ((y1 _ (by omega)).trans q1) | exact ((y1 _ (by omega)).trans (q7 _ (by omega)))) | (refine (xup_n (by omega)).trans ((xup_n (by omega)).trans ((xup_n (by omega)).trans ?_)); first | assumption | exact xup_s | exact q1 | exact hC1.1 | exact (q7 _ (by omega)) | exact hC2.1 | exact ((y1 _ (by omega)).trans q1) | exact ((y1 _ (by omega)).trans (q7 _ (by omega))))) (by rfl) ?_
    refine xs_if 50 10 r_51_7 rfl (fun hc1 => ?_) (fun hc1 => ?_)
    · have hc1 := (nI_leN rfl rfl (by omega) (by omega)).mp hc1
      refine xs_f 51 r_51_50 rfl ?_
      refine xs_f 52 (lv2 := [(2, _), (0, _), (1, _)]) r_51_51 rfl ?_
      refine xs_f 53 r_51_52 rfl ?_
      refine xs_f 54 (lv2 := [(3, _), (2, _), (0, _), (1, _)]) r_51_53 rfl ?_
      refine xs_f 55 r_51_54 rfl ?_
      refine xs_f 57 (lv2 := [(4, _), (3, _), (2, _), (0, _), (1, _)]) r_51_55 rfl ?_
      refine xs_f 58 r_51_57 rfl ?_
      refine xs_f 60 (lv2 := [(5, _), (4, _), (3, _), (2, _), (0, _), (1, _)]) r_51_58 rfl ?_
      have e9 : i = many := by omega
      subst e9
      exact xP_lv [(0, .ref c), (1, .ref a), (2, .int (-1)), (3, .int (nI 0)), (4, .int (nI 0)), (5, .int (nI 0))] rfl ⟨rfl, rfl, rfl, rfl, rfl, rfl, trivial⟩ (xP_up (by omega) (vl_51b (d := d) (h := (f, h.2)) (r := r) h32 hC1 q1 q2 hE hlo hhi hA hB sA sB cA cB (k f _ _ hC1 hF) (i + 1) 0 0 (by omega) (by omega) (by omega) (fun _ j hj => absurd hj (Nat.not_lt_zero _))))
    · have hc1 := mt (nI_leN rfl rfl (by omega) (by omega)).mpr hc1
      have q5i := q5 i (by omega)
      obtain ⟨e1, e2, e3, e4⟩ := hE i (by omega)
      refine xs_f 11 r_51_10 rfl ?_
      refine xs_get 14 r_51_11 rfl rfl (by first | assumption | exact xup_s | exact q1 | exact hC1.1 | exact (q7 _ (by omega)) | exact hC2.1 | exact ((y1 _ (by omega)).trans q1) | exact ((y1 _ (by omega)).trans (q7 _ (by omega))) | (refine (xup_n (by omega)).trans ?_; first | assumption | exact xup_s | exact q1 | exact hC1.1 | exact (q7 _ (by omega)) | exact hC2.1 | exact ((y1 _ (by omega)).trans q1) | exact ((y1 _ (by omega)).trans (q7 _ (by omega)))) | (refine (xup_n (by omega)).trans ((xup_n (by omega)).trans ?_); first | assumption | exact xup_s | exact q1 | exact hC1.1 | exact (q7 _ (by omega)) | exact hC2.1 | exact ((y1 _ (by omega)).trans q1) | exact ((y1 _ (by omega)).trans (q7 _ (by omega)))) | (refine (xup_n (by omega)).trans ((xup_n (by omega)).trans ((xup_n (by omega)).trans ?_)); first | assumption | exact xup_s | exact q1 | exact hC1.1 | exact (q7 _ (by omega)) | exact hC2.1 | exact ((y1 _ (by omega)).trans q1) | exact ((y1 _ (by omega)).trans (q7 _ (by omega))))) (by rfl) ?_
      refine xs_f 15 r_51_14 rfl ?_
      refine xs_f 16 r_51_15 rfl ?_
      refine xs_get 19 r_51_16 rfl rfl (by first | assumption | exact xup_s | exact q1 | exact hC1.1 | exact (q7 _ (by omega)) | exact hC2.1 | exact ((y1 _ (by omega)).trans q1) | exact ((y1 _ (by omega)).trans (q7 _ (by omega))) | (refine (xup_n (by omega)).trans ?_; first | assumption | exact xup_s | exact q1 | exact hC1.1 | exact (q7 _ (by omega)) | exact hC2.1 | exact ((y1 _ (by omega)).trans q1) | exact ((y1 _ (by omega)).trans (q7 _ (by omega)))) | (refine (xup_n (by omega)).trans ((xup_n (by omega)).trans ?_); first | assumption | exact xup_s | exact q1 | exact hC1.1 | exact (q7 _ (by omega)) | exact hC2.1 | exact ((y1 _ (by omega)).trans q1) | exact ((y1 _ (by omega)).trans (q7 _ (by omega)))) | (refine (xup_n (by omega)).trans ((xup_n (by omega)).trans ((xup_n (by omega)).trans ?_)); first | assumption | exact xup_s | exact q1 | exact hC1.1 | exact (q7 _ (by omega)) | exact hC2.1 | exact ((y1 _ (by omega)).trans q1) | exact ((y1 _ (by omega)).trans (q7 _ (by omega))))) (by rfl) ?_
      refine xs_f 20 r_51_19 rfl ?_
      refine xs_aldR 21 r_51_20 (fun _ _ => rfl) rfl rfl rfl (j := i) rfl (by first | assumption | exact q3 | exact (q3.fr (y1 _ (by omega))) | (refine RA.fr ?_ (xup_n (by omega)); first | assumption | exact q3 | exact (q3.fr (y1 _ (by omega)))) | (refine RA.fr (RA.fr ?_ (xup_n (by omega))) (xup_n (by omega)); first | assumption | exact q3 | exact (q3.fr (y1 _ (by omega)))) | (refine RA.fr (RA.fr (RA.fr ?_ (xup_n (by omega))) (xup_n (by omega))) (xup_n (by omega)); first | assumption | exact q3 | exact (q3.fr (y1 _ (by omega))))) (by omega) ?_
      refine xs_get 24 r_51_21 rfl rfl (by first | assumption | exact xup_s | exact q1 | exact hC1.1 | exact (q7 _ (by omega)) | exact hC2.1 | exact ((y1 _ (by omega)).trans q1) | exact ((y1 _ (by omega)).trans (q7 _ (by omega))) | (refine (xup_n (by omega)).trans ?_; first | assumption | exact xup_s | exact q1 | exact hC1.1 | exact (q7 _ (by omega)) | exact hC2.1 | exact ((y1 _ (by omega)).trans q1) | exact ((y1 _ (by omega)).trans (q7 _ (by omega)))) | (refine (xup_n (by omega)).trans ((xup_n (by omega)).trans ?_); first | assumption | exact xup_s | exact q1 | exact hC1.1 | exact (q7 _ (by omega)) | exact hC2.1 | exact ((y1 _ (by omega)).trans q1) | exact ((y1 _ (by omega)).trans (q7 _ (by omega)))) | (refine (xup_n (by omega)).trans ((xup_n (by omega)).trans ((xup_n (by omega)).trans ?_)); first | assumption | exact xup_s | exact q1 | exact hC1.1 | exact (q7 _ (by omega)) | exact hC2.1 | exact ((y1 _ (by omega)).trans q1) | exact ((y1 _ (by omega)).trans (q7 _ (by omega))))) (show _ = some (Value.int (nI (L i))) from congrArg (fun z => some (Value.int z)) e1) ?_
      refine xs_call (lv2 := [(0, _), (1, _), (2, _)]) r_51_24 rfl rfl (by decide) (xcan_1 rfl) rfl (v_56 (h := (f, h.2)) (by omega) (by omega) (by omega) hlo hA sA hC1.2.2.2.1 (fun f1 p p1 p2 p3 x1 y1 => ?_))
      refine xK_0 rfl ?_
      have hC2 := hC1.slo x1 y1
      refine xs_f 28 r_51_27 rfl ?_
      refine xs_get 31 r_51_28 rfl rfl (by first | assumption | exact xup_s | exact q1 | exact hC1.1 | exact (q7 _ (by omega)) | exact hC2.1 | exact ((y1 _ (by omega)).trans q1) | exact ((y1 _ (by omega)).trans (q7 _ (by omega))) | (refine (xup_n (by omega)).trans ?_; first | assumption | exact xup_s | exact q1 | exact hC1.1 | exact (q7 _ (by omega)) | exact hC2.1 | exact ((y1 _ (by omega)).trans q1) | exact ((y1 _ (by omega)).trans (q7 _ (by omega)))) | (refine (xup_n (by omega)).trans ((xup_n (by omega)).trans ?_); first | assumption | exact xup_s | exact q1 | exact hC1.1 | exact (q7 _ (by omega)) | exact hC2.1 | exact ((y1 _ (by omega)).trans q1) | exact ((y1 _ (by omega)).trans (q7 _ (by omega)))) | (refine (xup_n (by omega)).trans ((xup_n (by omega)).trans ((xup_n (by omega)).trans ?_)); first | assumption | exact xup_s | exact q1 | exact hC1.1 | exact (q7 _ (by omega)) | exact hC2.1 | exact ((y1 _ (by omega)).trans q1) | exact ((y1 _ (by omega)).trans (q7 _ (by omega))))) (by rfl) ?_
      refine xs_f 32 r_51_31 rfl ?_
      refine xs_f 33 r_51_32 rfl ?_
      refine xs_get 36 r_51_33 rfl rfl (by first | assumption | exact xup_s | exact q1 | exact hC1.1 | exact (q7 _ (by omega)) | exact hC2.1 | exact ((y1 _ (by omega)).trans q1) | exact ((y1 _ (by omega)).trans (q7 _ (by omega))) | (refine (xup_n (by omega)).trans ?_; first | assumption | exact xup_s | exact q1 | exact hC1.1 | exact (q7 _ (by omega)) | exact hC2.1 | exact ((y1 _ (by omega)).trans q1) | exact ((y1 _ (by omega)).trans (q7 _ (by omega)))) | (refine (xup_n (by omega)).trans ((xup_n (by omega)).trans ?_); first | assumption | exact xup_s | exact q1 | exact hC1.1 | exact (q7 _ (by omega)) | exact hC2.1 | exact ((y1 _ (by omega)).trans q1) | exact ((y1 _ (by omega)).trans (q7 _ (by omega)))) | (refine (xup_n (by omega)).trans ((xup_n (by omega)).trans ((xup_n (by omega)).trans ?_)); first | assumption | exact xup_s | exact q1 | exact hC1.1 | exact (q7 _ (by omega)) | exact hC2.1 | exact ((y1 _ (by omega)).trans q1) | exact ((y1 _ (by omega)).trans (q7 _ (by omega))))) (by rfl) ?_
      refine xs_f 37 r_51_36 rfl ?_
      refine xs_aldR 38 r_51_37 (fun _ _ => rfl) rfl rfl rfl (j := i) rfl (by first | assumption | exact q3 | exact (q3.fr (y1 _ (by omega))) | (refine RA.fr ?_ (xup_n (by omega)); first | assumption | exact q3 | exact (q3.fr (y1 _ (by omega)))) | (refine RA.fr (RA.fr ?_ (xup_n (by omega))) (xup_n (by omega)); first | assumption | exact q3 | exact (q3.fr (y1 _ (by omega)))) | (refine RA.fr (RA.fr (RA.fr ?_ (xup_n (by omega))) (xup_n (by omega))) (xup_n (by omega)); first | assumption | exact q3 | exact (q3.fr (y1 _ (by omega))))) (by omega) ?_
      refine xs_get 41 r_51_38 rfl rfl (by first | assumption | exact xup_s | exact q1 | exact hC1.1 | exact (q7 _ (by omega)) | exact hC2.1 | exact ((y1 _ (by omega)).trans q1) | exact ((y1 _ (by omega)).trans (q7 _ (by omega))) | (refine (xup_n (by omega)).trans ?_; first | assumption | exact xup_s | exact q1 | exact hC1.1 | exact (q7 _ (by omega)) | exact hC2.1 | exact ((y1 _ (by omega)).trans q1) | exact ((y1 _ (by omega)).trans (q7 _ (by omega)))) | (refine (xup_n (by omega)).trans ((xup_n (by omega)).trans ?_); first | assumption | exact xup_s | exact q1 | exact hC1.1 | exact (q7 _ (by omega)) | exact hC2.1 | exact ((y1 _ (by omega)).trans q1) | exact ((y1 _ (by omega)).trans (q7 _ (by omega)))) | (refine (xup_n (by omega)).trans ((xup_n (by omega)).trans ((xup_n (by omega)).trans ?_)); first | assumption | exact xup_s | exact q1 | exact hC1.1 | exact (q7 _ (by omega)) | exact hC2.1 | exact ((y1 _ (by omega)).trans q1) | exact ((y1 _ (by omega)).trans (q7 _ (by omega))))) (show _ = some (Value.int (nI (U i))) from congrArg (fun z => some (Value.int z)) e2) ?_
      refine xs_call (lv2 := [(0, _), (1, _), (2, _)]) r_51_41 rfl rfl (by decide) (xcan_1 rfl) rfl (v_56 (h := (f1, h.2)) (by omega) (by omega) (by omega) hhi hB sB hC2.2.2.2.2 (fun f2 p4 p5 p6 p7 x2 y2 => ?_))
      refine xK_0 rfl ?_
      have hC3 := hC2.shi x2 y2
      refine xs_f 47 (lv2 := [(2, _), (0, _), (1, _)]) r_51_44 rfl ?_
      refine xs_f 2 r_51_47 rfl ?_
      exact xP_lv [(0, .ref c), (1, .ref a), (2, .int (nI (i + 1)))] rfl ⟨rfl, rfl, (by rw [nI_succ]; rfl), trivial⟩ (ih (i + 1) f2 (insV A p (L i) i) (insV B p4 (U i) i) _ _ (by omega) (by omega) hC3 ((hF.tr (y1.wd (by omega) (by omega))).tr (y2.wd (by omega) (by omega))) (insV_nI p1 hlo) (insV_nI p5 hhi) (insV_le p1 hA (by omega)) (insV_le p5 hB (by omega)) (srt_ins sA p2 p3 p1) (srt_ins sB p6 p7 p5) (fun x => by
          rw [cnt_ins (fun y => decide (y ≤ x)) p1, cA x, cntB_s]
          cases decide (L i ≤ x) <;> rfl) (fun x => by
          rw [cnt_ins (fun y => decide (y < x)) p5, cB x, cntB_s]
          cases decide (U i < x) <;> rfl))

theorem v_51 {S : XSc} {d : Nat} {h : XH} {Q : XO → XH → Prop} {c : Nat} {W : Nat → Nat → Int64} {lo hi : Nat → Int32} (h32 : 32 ≤ c) (hC : CvP h.1 c W lo hi) {a : Nat} {num wt : Int32} {many : Nat} {E : Nat → XEst} {r : Nat → Nat} {L U : Nat → Nat} (hQ : QAt h.1 a num wt many E r) (h33 : 32 ≤ a) (hac : a + 7 ≤ c ∨ c + 10 ≤ a) (hE : endsE E many L U) (k : ∀ f lo2 hi2, CvP f c W lo2 hi2 → Fr h.1 f c (c + 10) → Q (.inl (some (.int (if 0 < many then nI (mstV E many 999).1 else -1)))) (f, h.2)) : xP S (d + 1) 51 0 [(0, .ref c), (1, .ref a)] [] h Q := by
  refine xs_f 1 r_51_0 rfl ?_
  refine xs_f 2 (lv2 := [(2, _), (0, _), (1, _)]) r_51_1 rfl ?_
  exact xP_lv [(0, .ref c), (1, .ref a), (2, .int (nI 0))] rfl ⟨rfl, rfl, rfl, trivial⟩ (vl_51a h32 hQ h33 hac hE k (many + 1) 0 h.1 (fun _ => 0) (fun _ => 0) lo hi (by omega) (by omega) hC Fr.rf (fun j hj => absurd hj (Nat.not_lt_zero _)) (fun j hj => absurd hj (Nat.not_lt_zero _)) (fun j hj => absurd hj (Nat.not_lt_zero _)) (fun j hj => absurd hj (Nat.not_lt_zero _)) (fun i j _ hj => absurd hj (Nat.not_lt_zero _)) (fun i j _ hj => absurd hj (Nat.not_lt_zero _)) (fun _ => rfl) (fun _ => rfl))

