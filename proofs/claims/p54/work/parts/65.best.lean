/-! coverage: filled, and read -/
theorem cmp_0 {x : Int64} (h : lg_cmp x 0 = 0) : x = 0 := by
  unfold lg_cmp at h
  split at h
  · cases h
  · split at h
    · assumption
    · cases h
/-- rows of zeros up to the level n -/
def zeroW (W : Nat → Nat → Int64) (n : Nat) : Nat → Nat → Int64 := fun v w => if 1 ≤ v ∧ v < n then 0 else W v w
theorem vl_52b {S : XSc} {d : Nat} {h : XH} {Q : XO → XH → Prop} {c : Nat} {W : Nat → Nat → Int64} {lo hi : Nat → Int32} (h32 : 32 ≤ c) {a : Nat} {num wt : Int32} {many : Nat} {E : Nat → XEst} {r : Nat → Nat} {L U : Nat → Nat} (hQ : QAt h.1 a num wt many E r) (h33 : 32 ≤ a) (hac : a + 7 ≤ c ∨ c + 10 ≤ a) (hE : endsE E many L U) (k : ∀ f, CvP f c (fillW W L U many) lo hi → Fr h.1 f c (c + 10) → Q (.inl none) (f, h.2)) : ∀ (m : Nat) (i : Nat) (f : Nat → Option XE), many - i < m → (i ≤ many) → (CvP f c (fillW W L U i) lo hi) → (Fr h.1 f c (c + 10)) → xP S (d + 2) 52 25 [(0, .ref c), (1, .ref a), (2, .int (nI i))] [] (f, h.2) Q := by
  intro m
  induction m with
  | zero => intro i f hm; exact absurd hm (Nat.not_lt_zero _)
  | succ m ih =>
    intro i f hm hi hC1 hF
    obtain ⟨q1, q2, q3, q5, q6, q7⟩ := hQ.fr (g := f) (fun x z1 z2 => hF x (by omega))
    have g1 := hC1.1
    refine xs_f 26 r_52_25 rfl ?_
    refine xs_f 27 r_52_26 rfl ?_
    refine xs_get 30 r_52_27 rfl rfl (by first | assumption | exact xup_s | exact q1 | exact g1 | exact (q7 _ (by omega)) | (refine (xup_n (by omega)).trans ?_; first | assumption | exact xup_s | exact q1 | exact g1 | exact (q7 _ (by omega))) | (refine (xup_n (by omega)).trans ((xup_n (by omega)).trans ?_); first | assumption | exact xup_s | exact q1 | exact g1 | exact (q7 _ (by omega))) | (refine (xup_n (by omega)).trans ((xup_n (by omega)).trans ((xup_n (by omega)).trans ?_)); first | assumption | exact xup_s | exact q1 | exact g1 | exact (q7 _ (by omega)))) (by rfl) ?_
    refine xs_if 52 33 r_52_30 rfl (fun hc1 => ?_) (fun hc1 => ?_)
    · have hc1 := (nI_leN rfl rfl (by omega) (by omega)).mp hc1
      refine xs_ret r_52_52 rfl ?_
      have e : i = many := by omega
      subst e
      exact k f hC1 hF
    · have hc1 := mt (nI_leN rfl rfl (by omega) (by omega)).mpr hc1
      refine xs_f 34 r_52_33 rfl ?_
      refine xs_f 35 r_52_34 rfl ?_
      refine xs_get 38 r_52_35 rfl rfl (by first | assumption | exact xup_s | exact q1 | exact g1 | exact (q7 _ (by omega)) | (refine (xup_n (by omega)).trans ?_; first | assumption | exact xup_s | exact q1 | exact g1 | exact (q7 _ (by omega))) | (refine (xup_n (by omega)).trans ((xup_n (by omega)).trans ?_); first | assumption | exact xup_s | exact q1 | exact g1 | exact (q7 _ (by omega))) | (refine (xup_n (by omega)).trans ((xup_n (by omega)).trans ((xup_n (by omega)).trans ?_)); first | assumption | exact xup_s | exact q1 | exact g1 | exact (q7 _ (by omega)))) (by rfl) ?_
      refine xs_f 39 r_52_38 rfl ?_
      refine xs_aldR 40 r_52_39 (fun _ _ => rfl) rfl rfl rfl (j := i) rfl (by first | assumption | exact q3 | (refine RA.fr ?_ (xup_n (by omega)); first | assumption | exact q3) | (refine RA.fr (RA.fr ?_ (xup_n (by omega))) (xup_n (by omega)); first | assumption | exact q3) | (refine RA.fr (RA.fr (RA.fr ?_ (xup_n (by omega))) (xup_n (by omega))) (xup_n (by omega)); first | assumption | exact q3)) (by omega) ?_
      refine xs_f 41 r_52_40 rfl ?_
      refine xs_f 42 r_52_41 rfl ?_
      refine xs_f 43 r_52_42 rfl ?_
      have q5i := q5 i (by omega)
      obtain ⟨e1, e2, e3, e4⟩ := hE i (by omega)
      refine xs_call (lv2 := [(0, _), (1, _), (2, _)]) r_52_43 rfl rfl (by decide) (xcan_0 rfl rfl (by first | assumption | exact xup_s | exact q1 | exact g1 | exact (q7 _ (by omega)) | (refine (xup_n (by omega)).trans ?_; first | assumption | exact xup_s | exact q1 | exact g1 | exact (q7 _ (by omega))) | (refine (xup_n (by omega)).trans ((xup_n (by omega)).trans ?_); first | assumption | exact xup_s | exact q1 | exact g1 | exact (q7 _ (by omega))) | (refine (xup_n (by omega)).trans ((xup_n (by omega)).trans ((xup_n (by omega)).trans ?_)); first | assumption | exact xup_s | exact q1 | exact g1 | exact (q7 _ (by omega)))) (by rfl)) rfl (xP_lv [(0, .ref c), (1, .ref (a + 2 + r i)), (2, .int (nI (i + 1)))] rfl ⟨rfl, rfl, (congrArg (fun z => some (Value.int z)) (nI_addE rfl (nI_k 1))), trivial⟩ (v_53 (h := (f, h.2)) h32 hC1 (by omega) e4 (q7 i (by omega)) (by omega) e1 e2 (top := i + 1) (by omega) (by omega) (fun f2 x2 y2 => ?_)))
      refine xK_0 rfl ?_
      refine xs_f 49 (lv2 := [(2, _), (0, _), (1, _)]) r_52_46 rfl ?_
      refine xs_f 25 r_52_49 rfl ?_
      exact xP_lv [(0, .ref c), (1, .ref a), (2, .int (nI (i + 1)))] rfl ⟨rfl, rfl, (by rw [nI_succ]; rfl), trivial⟩ (ih (i + 1) f2 (by omega) (by omega) x2 (hF.tr y2))

theorem vl_52a {S : XSc} {d : Nat} {h : XH} {Q : XO → XH → Prop} {c : Nat} {W : Nat → Nat → Int64} {lo hi : Nat → Int32} (h32 : 32 ≤ c) {a : Nat} {num wt : Int32} {many : Nat} {E : Nat → XEst} {r : Nat → Nat} {L U : Nat → Nat} (hQ : QAt h.1 a num wt many E r) (h33 : 32 ≤ a) (hac : a + 7 ≤ c ∨ c + 10 ≤ a) (hE : endsE E many L U) (k : ∀ f, CvP f c (fillW W L U many) lo hi → Fr h.1 f c (c + 10) → Q (.inl none) (f, h.2)) : ∀ (m : Nat) (n : Nat) (f : Nat → Option XE), 6 - n < m → (1 ≤ n) → (n ≤ 6) → (CvP f c (zeroW W n) lo hi) → (Fr h.1 f c (c + 10)) → xP S (d + 2) 52 2 [(0, .ref c), (1, .ref a), (2, .int (nI n))] [] (f, h.2) Q := by
  intro m
  induction m with
  | zero => intro n f hm; exact absurd hm (Nat.not_lt_zero _)
  | succ m ih =>
    intro n f hm hn1 hn hC1 hF
    obtain ⟨g1, g2, g3, g4, g5⟩ := id hC1
    refine xs_f 3 r_52_2 rfl ?_
    refine xs_f 4 r_52_3 rfl ?_
    refine xs_if 23 7 r_52_4 rfl (fun hc1 => ?_) (fun hc1 => ?_)
    · have hc1 := (nI_ltN (nI_k 5) rfl (by omega) (by omega)).mp hc1
      refine xs_f 24 r_52_23 rfl ?_
      refine xs_f 25 (lv2 := [(2, _), (0, _), (1, _)]) r_52_24 rfl ?_
      exact xP_lv [(0, .ref c), (1, .ref a), (2, .int (nI 0))] rfl ⟨rfl, rfl, rfl, trivial⟩ (vl_52b h32 hQ h33 hac hE k (many + 1) 0 f (by omega) (by omega) (hC1.ex (fun v hv w hw => by
          unfold zeroW fillW
          by_cases z : v = 0
          · rw [if_neg (by omega), if_pos z, z]
          · rw [if_pos (by omega), if_neg z])) hF)
    · have hc1 := mt (nI_ltN (nI_k 5) rfl (by omega) (by omega)).mpr hc1
      refine xs_f 8 r_52_7 rfl ?_
      refine xs_get 11 r_52_8 rfl rfl (by first | assumption | exact xup_s | exact g1 | (refine (xup_n (by omega)).trans ?_; first | assumption | exact xup_s | exact g1) | (refine (xup_n (by omega)).trans ((xup_n (by omega)).trans ?_); first | assumption | exact xup_s | exact g1) | (refine (xup_n (by omega)).trans ((xup_n (by omega)).trans ((xup_n (by omega)).trans ?_)); first | assumption | exact xup_s | exact g1)) (by rfl) ?_
      refine xs_f 12 r_52_11 rfl ?_
      refine xs_aldR 13 r_52_12 (fun _ _ => rfl) rfl rfl rfl (j := n) rfl (by first | assumption | exact g2 | (refine RA.fr ?_ (xup_n (by omega)); first | assumption | exact g2) | (refine RA.fr (RA.fr ?_ (xup_n (by omega))) (xup_n (by omega)); first | assumption | exact g2) | (refine RA.fr (RA.fr (RA.fr ?_ (xup_n (by omega))) (xup_n (by omega))) (xup_n (by omega)); first | assumption | exact g2)) (by omega) ?_
      refine xs_f 14 r_52_13 rfl ?_
      refine xs_call (lv2 := [(0, _), (1, _)]) r_52_14 rfl rfl (by decide) (xcan_1 rfl) rfl (c_fiL (h := (f, h.2)) (by omega) (by omega) (g3 n (by omega)) (fun f2 x2 y2 => ?_))
      refine xK_0 rfl ?_
      refine xs_f 20 (lv2 := [(2, _), (0, _), (1, _)]) r_52_17 rfl ?_
      refine xs_f 2 r_52_20 rfl ?_
      exact xP_lv [(0, .ref c), (1, .ref a), (2, .int (nI (n + 1)))] rfl ⟨rfl, rfl, (by rw [nI_succ]; rfl), trivial⟩ (ih (n + 1) f2 (by omega) (by omega) (by omega) ((hC1.row (j := n) (by omega) x2 y2).ex (fun v hv w hw => by
          unfold xw zeroW
          by_cases z : v = n
          · rw [if_pos z, if_pos (by omega)]
          · rw [if_neg z]
            by_cases z2 : 1 ≤ v ∧ v < n
            · rw [if_pos z2, if_pos (by omega)]
            · rw [if_neg z2, if_neg (by omega)])) (hF.tr (y2.wd (by omega) (by omega))))

theorem v_52 {S : XSc} {d : Nat} {h : XH} {Q : XO → XH → Prop} {c : Nat} {W : Nat → Nat → Int64} {lo hi : Nat → Int32} (h32 : 32 ≤ c) (hC : CvP h.1 c W lo hi) {a : Nat} {num wt : Int32} {many : Nat} {E : Nat → XEst} {r : Nat → Nat} {L U : Nat → Nat} (hQ : QAt h.1 a num wt many E r) (h33 : 32 ≤ a) (hac : a + 7 ≤ c ∨ c + 10 ≤ a) (hE : endsE E many L U) (k : ∀ f, CvP f c (fillW W L U many) lo hi → Fr h.1 f c (c + 10) → Q (.inl none) (f, h.2)) : xP S (d + 2) 52 0 [(0, .ref c), (1, .ref a)] [] h Q := by
  refine xs_f 1 r_52_0 rfl ?_
  refine xs_f 2 (lv2 := [(2, _), (0, _), (1, _)]) r_52_1 rfl ?_
  exact xP_lv [(0, .ref c), (1, .ref a), (2, .int (nI 1))] rfl ⟨rfl, rfl, rfl, trivial⟩ (vl_52a h32 hQ h33 hac hE k 7 1 h.1 (by omega) (by omega) (by omega) (hC.ex (fun v hv w hw => (if_neg (by omega)).symm)) Fr.rf)

theorem vl_55 {S : XSc} {d : Nat} {h : XH} {Q : XO → XH → Prop} {c : Nat} {W : Nat → Nat → Int64} {lo hi : Nat → Int32} (h32 : 32 ≤ c) (hC : CvP h.1 c W lo hi)  {lv : Nat} (hlv : lv < 6) (k1 : ∀ v, v < 1024 → setB (W lv) v = true → (∀ u, u < v → setB (W lv) u = false) → Q (.inl (some (.int (nI v)))) h) (k0 : (∀ v, v < 1024 → setB (W lv) v = false) → Q (.inl (some (.int (-1)))) h) : ∀ (m : Nat) (w : Nat), 16 - w < m → (w ≤ 16) → (∀ x, x < w → W lv x = 0) → xP S (d + 2) 55 2 [(0, .ref c), (1, .int (nI lv)), (2, .int (nI w))] [] h Q := by
  intro m
  induction m with
  | zero => intro w hm; exact absurd hm (Nat.not_lt_zero _)
  | succ m ih =>
    intro w hm hw hz
    obtain ⟨g1, g2, g3, g4, g5⟩ := id hC
    have hb : ∀ u, u < 64 * w → setB (W lv) u = false := fun u hu => by
      unfold setB
      rw [hz _ (by omega)]
      exact bitL_0 _
    refine xs_f 3 r_55_2 rfl ?_
    refine xs_f 5 r_55_3 rfl ?_
    refine xs_if 44 8 r_55_5 rfl (fun hc1 => ?_) (fun hc1 => ?_)
    · have hc1 := (nI_leN (nI_k 16) rfl (by omega) (by omega)).mp hc1
      refine xs_f 45 r_55_44 rfl ?_
      refine xs_ret r_55_45 rfl ?_
      exact k0 (fun v hv => hb v (by omega))
    · have hc1 := mt (nI_leN (nI_k 16) rfl (by omega) (by omega)).mpr hc1
      refine xs_f 9 r_55_8 rfl ?_
      refine xs_get 12 r_55_9 rfl rfl (by first | assumption | exact xup_s | exact g1 | (refine (xup_n (by omega)).trans ?_; first | assumption | exact xup_s | exact g1) | (refine (xup_n (by omega)).trans ((xup_n (by omega)).trans ?_); first | assumption | exact xup_s | exact g1) | (refine (xup_n (by omega)).trans ((xup_n (by omega)).trans ((xup_n (by omega)).trans ?_)); first | assumption | exact xup_s | exact g1)) (by rfl) ?_
      refine xs_f 13 r_55_12 rfl ?_
      refine xs_aldR 14 r_55_13 (fun _ _ => rfl) rfl rfl rfl (j := lv) rfl (by first | assumption | exact g2 | exact (g3 lv hlv) | (refine RA.fr ?_ (xup_n (by omega)); first | assumption | exact g2 | exact (g3 lv hlv)) | (refine RA.fr (RA.fr ?_ (xup_n (by omega))) (xup_n (by omega)); first | assumption | exact g2 | exact (g3 lv hlv)) | (refine RA.fr (RA.fr (RA.fr ?_ (xup_n (by omega))) (xup_n (by omega))) (xup_n (by omega)); first | assumption | exact g2 | exact (g3 lv hlv))) (by omega) ?_
      refine xs_f 15 r_55_14 rfl ?_
      refine xs_aldL 16 r_55_15 (fun _ _ => rfl) rfl rfl rfl (j := w) rfl (by first | assumption | exact g2 | exact (g3 lv hlv) | (refine LA.fr ?_ (xup_n (by omega)); first | assumption | exact g2 | exact (g3 lv hlv)) | (refine LA.fr (LA.fr ?_ (xup_n (by omega))) (xup_n (by omega)); first | assumption | exact g2 | exact (g3 lv hlv)) | (refine LA.fr (LA.fr (LA.fr ?_ (xup_n (by omega))) (xup_n (by omega))) (xup_n (by omega)); first | assumption | exact g2 | exact (g3 lv hlv))) (by omega) ?_
      refine xs_f 17 r_55_16 rfl ?_
      refine xs_f 18 r_55_17 rfl ?_
      refine xs_if 38 21 r_55_18 rfl (fun hc0 => ?_) (fun hc0 => ?_)
      · have hw0 := cmp_0 hc0
        refine xs_f 41 (lv2 := [(2, _), (0, _), (1, _)]) r_55_38 rfl ?_
        refine xs_f 2 r_55_41 rfl ?_
        exact xP_lv [(0, .ref c), (1, .int (nI lv)), (2, .int (nI (w + 1)))] rfl ⟨rfl, rfl, (by rw [nI_succ]; rfl), trivial⟩ (ih (w + 1) (by omega) (by omega) (fun x hx => by
            by_cases z : x = w
            · rw [z]; exact hw0
            · exact hz x (by omega)))
      · refine xs_f 22 r_55_21 rfl ?_
        refine xs_f 24 r_55_22 rfl ?_
        refine xs_f 25 r_55_24 rfl ?_
        refine xs_f 26 r_55_25 rfl ?_
        refine xs_get 29 r_55_26 rfl rfl (by first | assumption | exact xup_s | exact g1 | (refine (xup_n (by omega)).trans ?_; first | assumption | exact xup_s | exact g1) | (refine (xup_n (by omega)).trans ((xup_n (by omega)).trans ?_); first | assumption | exact xup_s | exact g1) | (refine (xup_n (by omega)).trans ((xup_n (by omega)).trans ((xup_n (by omega)).trans ?_)); first | assumption | exact xup_s | exact g1)) (by rfl) ?_
        refine xs_f 30 r_55_29 rfl ?_
        refine xs_aldR 31 r_55_30 (fun _ _ => rfl) rfl rfl rfl (j := lv) rfl (by first | assumption | exact g2 | exact (g3 lv hlv) | (refine RA.fr ?_ (xup_n (by omega)); first | assumption | exact g2 | exact (g3 lv hlv)) | (refine RA.fr (RA.fr ?_ (xup_n (by omega))) (xup_n (by omega)); first | assumption | exact g2 | exact (g3 lv hlv)) | (refine RA.fr (RA.fr (RA.fr ?_ (xup_n (by omega))) (xup_n (by omega))) (xup_n (by omega)); first | assumption | exact g2 | exact (g3 lv hlv))) (by omega) ?_
        refine xs_f 32 r_55_31 rfl ?_
        refine xs_aldL 33 r_55_32 (fun _ _ => rfl) rfl rfl rfl (j := w) rfl (by first | assumption | exact g2 | exact (g3 lv hlv) | (refine LA.fr ?_ (xup_n (by omega)); first | assumption | exact g2 | exact (g3 lv hlv)) | (refine LA.fr (LA.fr ?_ (xup_n (by omega))) (xup_n (by omega)); first | assumption | exact g2 | exact (g3 lv hlv)) | (refine LA.fr (LA.fr (LA.fr ?_ (xup_n (by omega))) (xup_n (by omega))) (xup_n (by omega)); first | assumption | exact g2 | exact (g3 lv hlv))) (by omega) ?_
        refine xs_call (lv2 := [(0, _)]) r_55_33 rfl rfl (by decide) (xcan_1 rfl) rfl (v_288 (x := W lv w) (fun z => hc0 (by rw [z]; rfl)) (fun t t1 t2 t3 => ?_))
        refine xK_v rfl ?_
        refine xs_f 37 r_55_36 rfl ?_
        refine xs_ret r_55_37 rfl ?_
        exact xq_int (k1 (64 * w + t) (by omega) (by unfold setB; rw [show (64 * w + t) / 64 = w by omega, show (64 * w + t) % 64 = t by omega]; exact t2) (fun u hu => by
          by_cases z : u < 64 * w
          · exact hb u z
          · unfold setB
            rw [show u / 64 = w by omega]
            exact t3 _ (by omega))) ((nI_addE (nI_mulE (x := nI w) rfl (nI_k 64)) (y := nI t) rfl).trans (congrArg nI (by omega)))

theorem v_55 {S : XSc} {d : Nat} {h : XH} {Q : XO → XH → Prop} {c : Nat} {W : Nat → Nat → Int64} {lo hi : Nat → Int32} (h32 : 32 ≤ c) (hC : CvP h.1 c W lo hi)  {lv : Nat} (hlv : lv < 6) (k1 : ∀ v, v < 1024 → setB (W lv) v = true → (∀ u, u < v → setB (W lv) u = false) → Q (.inl (some (.int (nI v)))) h) (k0 : (∀ v, v < 1024 → setB (W lv) v = false) → Q (.inl (some (.int (-1)))) h) : xP S (d + 2) 55 0 [(0, .ref c), (1, .int (nI lv))] [] h Q := by
  refine xs_f 1 r_55_0 rfl ?_
  refine xs_f 2 (lv2 := [(2, _), (0, _), (1, _)]) r_55_1 rfl ?_
  exact xP_lv [(0, .ref c), (1, .int (nI lv)), (2, .int (nI 0))] rfl ⟨rfl, rfl, rfl, trivial⟩ (vl_55 h32 hC hlv k1 k0 17 0 (by omega) (by omega) (fun x hx => absurd hx (Nat.not_lt_zero _)))

theorem vl_49 {S : XSc} {d : Nat} {h : XH} {Q : XO → XH → Prop} {c : Nat} {W : Nat → Nat → Int64} {lo hi : Nat → Int32} (h32 : 32 ≤ c) {many : Nat} {E : Nat → XEst} {L U : Nat → Nat} {a : Nat} (hm : many ≤ 5) (hE : endsE E many L U) (hC : CvP h.1 c (fillW W L U many) lo hi) (k : Q (.inl (some (.int (if 0 < many then nI (mstV E many 999).1 else -1)))) h) : ∀ (m : Nat) (n : Nat), n < m → (n ≤ many) → (∀ v, v < 1024 → xcov E (nI v) many ≤ n) → xP S (d + 3) 49 10 [(0, .ref c), (1, .ref a), (2, .int (nI n))] [] h Q := by
  intro m
  induction m with
  | zero => intro n hm; exact absurd hm (Nat.not_lt_zero _)
  | succ m ih =>
    intro n hm hn hx
    refine xs_f 11 r_49_10 rfl ?_
    refine xs_if 33 14 r_49_11 rfl (fun hc1 => ?_) (fun hc1 => ?_)
    · have hc1 := (nI_leN rfl (nI_k 0) (by omega) (by omega)).mp hc1
      refine xs_f 34 r_49_33 rfl ?_
      refine xs_ret r_49_34 rfl ?_
      have h0 : many = 0 := by
        rcases Nat.eq_zero_or_pos many with z | z
        · exact z
        · have h1 := xcov_one hE z
          have h4 := hE 0 z
          have h2 := hx (L 0) (by omega)
          omega
      rw [if_neg (by omega)] at k
      exact k
    · have hc1 := mt (nI_leN rfl (nI_k 0) (by omega) (by omega)).mpr hc1
      refine xs_f 15 r_49_14 rfl ?_
      refine xs_f 16 r_49_15 rfl ?_
      refine xs_call (lv2 := [(0, _), (1, _)]) r_49_16 rfl rfl (by decide) (xcan_0 rfl rfl (by first | assumption | exact xup_s | exact hC.1 | (refine (xup_n (by omega)).trans ?_; first | assumption | exact xup_s | exact hC.1) | (refine (xup_n (by omega)).trans ((xup_n (by omega)).trans ?_); first | assumption | exact xup_s | exact hC.1) | (refine (xup_n (by omega)).trans ((xup_n (by omega)).trans ((xup_n (by omega)).trans ?_)); first | assumption | exact xup_s | exact hC.1)) (by rfl)) rfl (v_55 h32 hC (lv := n) (by omega) (fun v v1 v2 v3 => ?_) (fun v0 => ?_))
      · refine xK_v rfl ?_
        refine xs_f 20 (lv2 := [(3, _), (0, _), (1, _), (2, _)]) r_49_19 rfl ?_
        refine xs_f 21 r_49_20 rfl ?_
        refine xs_f 22 r_49_21 rfl ?_
        refine xs_if 27 25 r_49_22 rfl (fun hc2 => ?_) (fun hc2 => ?_)
        · exact absurd hc2 (nI_m1 rfl (by omega))
        · refine xs_f 26 r_49_25 rfl ?_
          refine xs_ret r_49_26 rfl ?_
          have b2 := v2
          rw [fill_bits v1 hE (by omega)] at b2
          have b2 := of_decide_eq_true b2
          have b3 : ∀ u, u < v → xcov E (nI u) many < n := fun u hu => by
            have := v3 u hu
            rw [fill_bits (by omega) hE (by omega)] at this
            have := of_decide_eq_false this
            omega
          have hv9 : v ≤ 999 := by
            rcases Nat.lt_or_ge 999 v with z | z
            · have := xcov_far z v1 hE
              omega
            · exact z
          have hvx := hx v v1
          have e := mst_eq (E := E) (m := many) (v := v) (c := n) hv9 (by omega) (fun u hu => hx u (by omega)) b3
          rw [if_pos (by omega), e] at k
          exact k
      · refine xK_v rfl ?_
        refine xs_f 20 (lv2 := [(3, _), (0, _), (1, _), (2, _)]) r_49_19 rfl ?_
        refine xs_f 21 r_49_20 rfl ?_
        refine xs_f 22 r_49_21 rfl ?_
        refine xs_f 27 r_49_22 rfl ?_
        refine xs_f 30 (lv2 := [(2, _), (3, _), (0, _), (1, _)]) r_49_27 rfl ?_
        refine xs_f 10 r_49_30 rfl ?_
        exact xP_lv [(0, .ref c), (1, .ref a), (2, .int (nI (n - 1)))] rfl ⟨rfl, rfl, (by rw [← nI_decE (x := nI n) rfl 1 (by omega)]; rfl), trivial⟩ (ih (n - 1) (by omega) (by omega) (fun v hv => by
            have h1 := v0 v hv
            rw [fill_bits hv hE (by omega)] at h1
            have h1 := of_decide_eq_false h1
            omega))

theorem v_49 {S : XSc} {d : Nat} {h : XH} {Q : XO → XH → Prop} {c : Nat} {W : Nat → Nat → Int64} {lo hi : Nat → Int32} (h32 : 32 ≤ c) (hC : CvP h.1 c W lo hi) {a : Nat} {num wt : Int32} {many : Nat} {E : Nat → XEst} {r : Nat → Nat} {L U : Nat → Nat} (hQ : QAt h.1 a num wt many E r) (h33 : 32 ≤ a) (hac : a + 7 ≤ c ∨ c + 10 ≤ a) (hE : endsE E many L U) (k : ∀ f W2, CvP f c W2 lo hi → Fr h.1 f c (c + 10) → Q (.inl (some (.int (if 0 < many then nI (mstV E many 999).1 else -1)))) (f, h.2)) : xP S (d + 3) 49 0 [(0, .ref c), (1, .ref a)] [] h Q := by
  refine xs_f 1 r_49_0 rfl ?_
  refine xs_f 2 r_49_1 rfl ?_
  refine xs_call (lv2 := [(0, _), (1, _)]) r_49_2 rfl rfl (by decide) (xcan_0 rfl rfl (by first | assumption | exact xup_s | exact q1 | exact hC.1 | (refine (xup_n (by omega)).trans ?_; first | assumption | exact xup_s | exact q1 | exact hC.1) | (refine (xup_n (by omega)).trans ((xup_n (by omega)).trans ?_); first | assumption | exact xup_s | exact q1 | exact hC.1) | (refine (xup_n (by omega)).trans ((xup_n (by omega)).trans ((xup_n (by omega)).trans ?_)); first | assumption | exact xup_s | exact q1 | exact hC.1)) (by rfl)) rfl (v_52 h32 hC hQ h33 hac hE (fun f1 x1 y1 => ?_))
  refine xK_0 rfl ?_
  have q1 := (y1 a (by omega)).trans hQ.1
  have hm5 := hQ.2.1
  refine xs_f 6 r_49_5 rfl ?_
  refine xs_get 9 r_49_6 rfl rfl (by first | assumption | exact xup_s | exact q1 | exact hC.1 | (refine (xup_n (by omega)).trans ?_; first | assumption | exact xup_s | exact q1 | exact hC.1) | (refine (xup_n (by omega)).trans ((xup_n (by omega)).trans ?_); first | assumption | exact xup_s | exact q1 | exact hC.1) | (refine (xup_n (by omega)).trans ((xup_n (by omega)).trans ((xup_n (by omega)).trans ?_)); first | assumption | exact xup_s | exact q1 | exact hC.1)) (by rfl) ?_
  refine xs_f 10 (lv2 := [(2, _), (0, _), (1, _)]) r_49_9 rfl ?_
  exact xP_lv [(0, .ref c), (1, .ref a), (2, .int (nI many))] rfl ⟨rfl, rfl, rfl, trivial⟩ (vl_49 (h := (f1, h.2)) h32 hm5 hE x1 (k f1 _ x1 y1) (many + 1) many (by omega) (by omega) (fun v hv => xcov_le _ _ _))

theorem numV_all {E : Nat → XEst} {L U : Nat → Nat} {many : Nat} {W : Nat → Nat → Int64} (hE : endsE E many L U) : cntB (setB (fillW W L U many 1)) 1024 = numV E many 1000 := by
  rw [show (1024 : Nat) = 1000 + 24 from rfl, cntB_8]
  have h1 : cntB (setB (fillW W L U many 1)) 1000 = numV E many 1000 := cntB_cong (fun v hv => fill_bits (by omega) hE (Nat.le_refl _))
  have h2 : ∀ n, n ≤ 24 → cntB (fun i => setB (fillW W L U many 1) (1000 + i)) n = 0 := by
    intro n
    induction n with
    | zero => intro _; rfl
    | succ n ih =>
      intro hn
      rw [cntB_s, fill_bits (by omega) hE (Nat.le_refl _), xcov_far (by omega) (by omega) hE, ih (by omega)]
      rfl
  rw [h1, h2 24 (by omega), Nat.add_zero]
theorem cnt_word (R : Nat → Int64) (w : Nat) : cntB (setB R) (64 * (w + 1)) = cntB (setB R) (64 * w) + cntB (bitL (R w)) 64 := by
  rw [show 64 * (w + 1) = 64 * w + 64 by omega, cntB_8]
  congr 1
  refine cntB_cong (fun i hi => ?_)
  unfold setB
  rw [show (64 * w + i) / 64 = w by omega, show (64 * w + i) % 64 = i by omega]
theorem vl_50 {S : XSc} {d : Nat} {h : XH} {Q : XO → XH → Prop} {c : Nat} {W : Nat → Nat → Int64} {lo hi : Nat → Int32} (h32 : 32 ≤ c) {a : Nat} (hC : CvP h.1 c W lo hi)  (k : Q (.inl (some (.int (nI (cntB (setB (W 1)) 1024))))) h) : ∀ (m : Nat) (w : Nat), 16 - w < m → (w ≤ 16) → xP S (d + 2) 50 9 [(0, .ref c), (1, .ref a), (2, .int (nI (cntB (setB (W 1)) (64 * w)))), (3, .int (nI w))] [] h Q := by
  intro m
  induction m with
  | zero => intro w hm; exact absurd hm (Nat.not_lt_zero _)
  | succ m ih =>
    intro w hm hw
    obtain ⟨g1, g2, g3, g4, g5⟩ := id hC
    refine xs_f 10 r_50_9 rfl ?_
    refine xs_f 12 r_50_10 rfl ?_
    refine xs_if 35 15 r_50_12 rfl (fun hc1 => ?_) (fun hc1 => ?_)
    · have hc1 := (nI_leN (nI_k 16) rfl (by omega) (by omega)).mp hc1
      refine xs_f 36 r_50_35 rfl ?_
      refine xs_ret r_50_36 rfl ?_
      have e : w = 16 := by omega
      subst e
      exact k
    · have hc1 := mt (nI_leN (nI_k 16) rfl (by omega) (by omega)).mpr hc1
      refine xs_f 16 r_50_15 rfl ?_
      refine xs_f 17 r_50_16 rfl ?_
      refine xs_get 20 r_50_17 rfl rfl (by first | assumption | exact xup_s | exact g1 | (refine (xup_n (by omega)).trans ?_; first | assumption | exact xup_s | exact g1) | (refine (xup_n (by omega)).trans ((xup_n (by omega)).trans ?_); first | assumption | exact xup_s | exact g1) | (refine (xup_n (by omega)).trans ((xup_n (by omega)).trans ((xup_n (by omega)).trans ?_)); first | assumption | exact xup_s | exact g1)) (by rfl) ?_
      refine xs_f 21 r_50_20 rfl ?_
      refine xs_aldR 22 r_50_21 (fun _ _ => rfl) rfl rfl rfl (j := 1) (nI_k 1) (by first | assumption | exact g2 | exact (g3 1 (by omega)) | (refine RA.fr ?_ (xup_n (by omega)); first | assumption | exact g2 | exact (g3 1 (by omega))) | (refine RA.fr (RA.fr ?_ (xup_n (by omega))) (xup_n (by omega)); first | assumption | exact g2 | exact (g3 1 (by omega))) | (refine RA.fr (RA.fr (RA.fr ?_ (xup_n (by omega))) (xup_n (by omega))) (xup_n (by omega)); first | assumption | exact g2 | exact (g3 1 (by omega)))) (by omega) ?_
      refine xs_f 23 r_50_22 rfl ?_
      refine xs_aldL 24 r_50_23 (fun _ _ => rfl) rfl rfl rfl (j := w) rfl (by first | assumption | exact g2 | exact (g3 1 (by omega)) | (refine LA.fr ?_ (xup_n (by omega)); first | assumption | exact g2 | exact (g3 1 (by omega))) | (refine LA.fr (LA.fr ?_ (xup_n (by omega))) (xup_n (by omega)); first | assumption | exact g2 | exact (g3 1 (by omega))) | (refine LA.fr (LA.fr (LA.fr ?_ (xup_n (by omega))) (xup_n (by omega))) (xup_n (by omega)); first | assumption | exact g2 | exact (g3 1 (by omega)))) (by omega) ?_
      refine xs_call (lv2 := [(0, _)]) r_50_24 rfl rfl (by decide) (xcan_1 rfl) rfl (v_287 ?_)
      refine xK_v rfl ?_
      refine xs_f 28 r_50_27 rfl ?_
      refine xs_f 29 (lv2 := [(2, _), (0, _), (1, _), (3, _)]) r_50_28 rfl ?_
      refine xs_f 32 (lv2 := [(3, _), (2, _), (0, _), (1, _)]) r_50_29 rfl ?_
      refine xs_f 9 r_50_32 rfl ?_
      exact xP_lv [(0, .ref c), (1, .ref a), (2, .int (nI (cntB (setB (W 1)) (64 * (w + 1))))), (3, .int (nI (w + 1)))] rfl ⟨rfl, rfl, (by rw [cnt_word, ← nI_add]; rfl), (by rw [nI_succ w]; rfl), trivial⟩ (ih (w + 1) (by omega) (by omega))

theorem v_50 {S : XSc} {d : Nat} {h : XH} {Q : XO → XH → Prop} {c : Nat} {W : Nat → Nat → Int64} {lo hi : Nat → Int32} (h32 : 32 ≤ c) (hC : CvP h.1 c W lo hi) {a : Nat} {num wt : Int32} {many : Nat} {E : Nat → XEst} {r : Nat → Nat} {L U : Nat → Nat} (hQ : QAt h.1 a num wt many E r) (h33 : 32 ≤ a) (hac : a + 7 ≤ c ∨ c + 10 ≤ a) (hE : endsE E many L U) (k : ∀ f W2, CvP f c W2 lo hi → Fr h.1 f c (c + 10) → Q (.inl (some (.int (nI (numV E many 1000))))) (f, h.2)) : xP S (d + 3) 50 0 [(0, .ref c), (1, .ref a)] [] h Q := by
  refine xs_f 1 r_50_0 rfl ?_
  refine xs_f 2 r_50_1 rfl ?_
  refine xs_call (lv2 := [(0, _), (1, _)]) r_50_2 rfl rfl (by decide) (xcan_0 rfl rfl (by first | assumption | exact xup_s | exact hC.1 | (refine (xup_n (by omega)).trans ?_; first | assumption | exact xup_s | exact hC.1) | (refine (xup_n (by omega)).trans ((xup_n (by omega)).trans ?_); first | assumption | exact xup_s | exact hC.1) | (refine (xup_n (by omega)).trans ((xup_n (by omega)).trans ((xup_n (by omega)).trans ?_)); first | assumption | exact xup_s | exact hC.1)) (by rfl)) rfl (v_52 h32 hC hQ h33 hac hE (fun f1 x1 y1 => ?_))
  refine xK_0 rfl ?_
  refine xs_f 6 r_50_5 rfl ?_
  refine xs_f 7 (lv2 := [(2, _), (0, _), (1, _)]) r_50_6 rfl ?_
  refine xs_f 8 r_50_7 rfl ?_
  refine xs_f 9 (lv2 := [(3, _), (2, _), (0, _), (1, _)]) r_50_8 rfl ?_
  exact xP_lv [(0, .ref c), (1, .ref a), (2, .int (nI (cntB (setB (fillW W L U many 1)) (64 * 0)))), (3, .int (nI 0))] rfl ⟨rfl, rfl, rfl, rfl, trivial⟩ (xP_up (by omega) (vl_50 (d := d) (W := fillW W L U many) (h := (f1, h.2)) h32 x1 (by rw [numV_all hE]; exact k f1 _ x1 y1) 17 0 (by omega) (by omega)))

