/-! coverage: sets of bits -/
def shlL (f : Nat) : Int64 := (-1 : Int64) <<< ((nI f).toInt64 &&& 63)
def shrL (g : Nat) : Int64 := ((-1 : Int64).toUInt64 >>> ((nI g).toInt64.toUInt64 &&& Int64.toUInt64 63)).toInt64
/-- the values from l to h, as the bits of the word w -/
def ivb (l h w : Nat) : Int64 := if 64 * w ≤ h ∧ l - 64 * w ≤ min (h - 64 * w) 63 then shlL (l - 64 * w) &&& shrL (63 - min (h - 64 * w) 63) else 0
theorem nI_subZ {a b : Nat} (ha : a < 1000000) (hb : b < 1000000) : (nI a - nI b).toInt = (a : Int) - b := nI_subI (by omega) (by omega)
theorem max_0 {l w : Nat} (hl : l < 1000000) (hw : w < 1000000) : (if nI l - nI w < 0 then 0 else nI l - nI w) = nI (l - w) := by
  have e := nI_subZ hl hw
  by_cases z : l < w
  · rw [if_pos (by rw [Int32.lt_iff_toInt_lt, e, show (0 : Int32).toInt = 0 from rfl]; omega), show l - w = 0 by omega]
    rfl
  · rw [if_neg (by rw [Int32.lt_iff_toInt_lt, e, show (0 : Int32).toInt = 0 from rfl]; omega)]
    exact nI_subE rfl rfl (by omega)
theorem min_63 {h w : Nat} (hl : h < 1000000) (hw : w < 1000000) (z : w ≤ h) : (if 63 < nI h - nI w then 63 else nI h - nI w) = nI (min (h - w) 63) := by
  rw [nI_subE (x := nI h) (y := nI w) rfl rfl z]
  by_cases y : 63 < h - w
  · rw [if_pos ((nI_ltN (nI_k 63) rfl (by omega) (by omega)).mpr y), show min (h - w) 63 = 63 by omega]
    rfl
  · rw [if_neg (mt (nI_ltN (nI_k 63) rfl (by omega) (by omega)).mp y), show min (h - w) 63 = h - w by omega]
theorem min_63n {h w : Nat} (hl : h < 1000000) (hw : w < 1000000) (z : h < w) : (if 63 < nI h - nI w then 63 else nI h - nI w) < 0 := by
  have e := nI_subZ hl hw
  rw [if_neg (by rw [Int32.lt_iff_toInt_lt, e, show (63 : Int32).toInt = 63 from rfl]; omega), Int32.lt_iff_toInt_lt, e, show (0 : Int32).toInt = 0 from rfl]
  omega
theorem v_54 {S : XSc} {d : Nat} {h : XH} {Q : XO → XH → Prop} {l u w : Nat} (hl : l ≤ 999) (hu : u ≤ 999) (hw : w < 16) (k : Q (.inl (some (.long (ivb l u w)))) h) : xP S d 54 0 [(0, .int (nI l)), (1, .int (nI u)), (2, .int (nI w))] [] h Q := by
  have hm : nI w * 64 = nI (64 * w) := (nI_mulE rfl (nI_k 64)).trans (congrArg nI (Nat.mul_comm _ _))
  have k0 : ivb l u w = 0 → Q (.inl (some (.long 0))) h := fun e => by rw [e] at k; exact k
  have k1 : ivb l u w = shlL (l - 64 * w) &&& shrL (63 - min (u - 64 * w) 63) → Q (.inl (some (.long (shlL (l - 64 * w) &&& shrL (63 - min (u - 64 * w) 63))))) h := fun e => by rw [e] at k; exact k
  refine xs_f 1 r_54_0 rfl ?_
  refine xs_f 2 r_54_1 rfl ?_
  refine xs_f 4 r_54_2 rfl ?_
  refine xs_f 5 r_54_4 rfl ?_
  refine xs_f 6 r_54_5 rfl ?_
  refine xs_f 7 r_54_6 rfl ?_
  refine xs_ext 10 r_54_7 rfl rfl rfl rfl ?_
  refine xs_f 11 (lv2 := [(3, _), (0, _), (1, _), (2, _)]) r_54_10 rfl ?_
  refine xs_f 12 r_54_11 rfl ?_
  refine xs_f 13 r_54_12 rfl ?_
  refine xs_f 15 r_54_13 rfl ?_
  refine xs_f 16 r_54_15 rfl ?_
  refine xs_f 17 r_54_16 rfl ?_
  refine xs_f 19 r_54_17 rfl ?_
  refine xs_ext 22 r_54_19 rfl rfl rfl rfl ?_
  refine xs_f 24 (lv2 := [(4, _), (3, _), (0, _), (1, _), (2, _)]) r_54_22 rfl ?_
  have e1 : (if nI l - nI w * 64 < 0 then 0 else nI l - nI w * 64) = nI (l - 64 * w) := by rw [hm]; exact max_0 (by omega) (by omega)
  by_cases hA : 64 * w ≤ u
  · have e2 : (if 63 < nI u - nI w * 64 then 63 else nI u - nI w * 64) = nI (min (u - 64 * w) 63) := by rw [hm]; exact min_63 (by omega) (by omega) hA
    refine xP_lv [(4, .int (nI (min (u - 64 * w) 63))), (3, .int (nI (l - 64 * w))), (0, .int (nI l)), (1, .int (nI u)), (2, .int (nI w))] rfl ⟨(by rw [← e2]; rfl), (by rw [← e1]; rfl), rfl, rfl, rfl, trivial⟩ ?_
    refine xs_f 25 r_54_24 rfl ?_
    refine xs_f 27 r_54_25 rfl ?_
    refine xs_if 34 30 r_54_27 rfl (fun hc1 => ?_) (fun hc1 => ?_)
    · have hc1 := (nI_leN rfl rfl (by omega) (by omega)).mp hc1
      refine xs_f 37 r_54_34 rfl ?_
      refine xs_f 38 r_54_37 rfl ?_
      refine xs_f 39 r_54_38 rfl ?_
      refine xs_f 42 r_54_39 rfl ?_
      refine xs_f 44 r_54_42 rfl ?_
      refine xs_f 46 r_54_44 rfl ?_
      refine xs_f 47 r_54_46 rfl ?_
      refine xs_f 48 r_54_47 rfl ?_
      refine xs_f 49 r_54_48 rfl ?_
      refine xs_ret r_54_49 rfl ?_
      first
        | exact k0 (if_neg (by omega))
        | (have k2 := k1 (if_pos ⟨hA, by omega⟩)
           unfold shlL shrL at k2
           rw [← nI_subE (x := 63) (y := nI (min (u - 64 * w) 63)) (nI_k 63) rfl (by omega)] at k2
           exact k2)
    · have hc1 := mt (nI_leN rfl rfl (by omega) (by omega)).mpr hc1
      refine xs_f 31 r_54_30 rfl ?_
      refine xs_f 49 r_54_31 rfl ?_
      refine xs_ret r_54_49 rfl ?_
      first
        | exact k0 (if_neg (by omega))
        | (have k2 := k1 (if_pos ⟨hA, by omega⟩)
           unfold shlL shrL at k2
           rw [← nI_subE (x := 63) (y := nI (min (u - 64 * w) 63)) (nI_k 63) rfl (by omega)] at k2
           exact k2)
  · have hneg : (if 63 < nI u - nI w * 64 then 63 else nI u - nI w * 64) < 0 := by rw [hm]; exact min_63n (by omega) (by omega) (by omega)
    refine xP_lv [(4, .int (if 63 < nI u - nI w * 64 then 63 else nI u - nI w * 64)), (3, .int (nI (l - 64 * w))), (0, .int (nI l)), (1, .int (nI u)), (2, .int (nI w))] rfl ⟨rfl, (by rw [← e1]; rfl), rfl, rfl, rfl, trivial⟩ ?_
    refine xs_f 25 r_54_24 rfl ?_
    refine xs_f 27 r_54_25 rfl ?_
    refine xs_if 34 30 r_54_27 rfl (fun hz => ?_) (fun hz => ?_)
    · exact absurd (Int32.le_trans (nI_pos' (by omega)) hz) (Int32.not_le.mpr hneg)
    · refine xs_f 31 r_54_30 rfl ?_
      refine xs_f 49 r_54_31 rfl ?_
      refine xs_ret r_54_49 rfl ?_
      exact k0 (if_neg (by omega))

theorem l_fiL {S : XSc} {d : Nat} {h : XH} {Q : XO → XH → Prop} {a n : Nat} {v : Int64} (h32 : 32 ≤ a) (hn : n ≤ 65536) (k : ∀ f, LA f a n (fun _ => v) → Fr h.1 f a (a + 1) → Q (.inl none) (f, h.2)) : ∀ (m : Nat) (i : Nat) (f : Nat → Option XE) (w : Nat → Int64), n - i < m → (i ≤ n) → (LA f a n w) → (∀ j, j < i → w j = v) → (Fr h.1 f a (a + 1)) → xP S d 291 6 [(0, .ref a), (1, .long v), (3, .int (nI i)), (4, .int (nI n))] [] (f, h.2) Q := by
  intro m
  induction m with
  | zero => intro i f w hm; exact absurd hm (Nat.not_lt_zero _)
  | succ m ih =>
    intro i f w hm hi hf hv hF
    refine xs_f 7 r_291_6 rfl ?_
    refine xs_f 9 r_291_7 rfl ?_
    refine xs_if 22 12 r_291_9 rfl (fun hc1 => ?_) (fun hc1 => ?_)
    · have hc1 := (nI_leN rfl rfl (by omega) (by omega)).mp hc1
      refine xs_ret r_291_22 rfl ?_
      exact k f (hf.ex (fun j hj => hv j (by omega))) hF
    · have hc1 := mt (nI_leN rfl rfl (by omega) (by omega)).mpr hc1
      refine xs_f 13 r_291_12 rfl ?_
      refine xs_f 14 r_291_13 rfl ?_
      refine xs_f 15 r_291_14 rfl ?_
      refine xs_astL 16 r_291_15 (fun _ _ => rfl) rfl rfl rfl (j := i) rfl (by first | assumption | (refine LA.fr ?_ (xup_n (by omega)); first | assumption) | (refine LA.fr (LA.fr ?_ (xup_n (by omega))) (xup_n (by omega)); first | assumption) | (refine LA.fr (LA.fr (LA.fr ?_ (xup_n (by omega))) (xup_n (by omega))) (xup_n (by omega)); first | assumption)) (by omega) (fun f1 x1 y1 => ?_)
      refine xs_f 19 (lv2 := [(3, _), (0, _), (1, _), (4, _)]) r_291_16 rfl ?_
      refine xs_f 6 r_291_19 rfl ?_
      exact xP_lv [(0, .ref a), (1, .long v), (3, .int (nI (i + 1))), (4, .int (nI n))] rfl ⟨rfl, rfl, (by rw [nI_succ]; rfl), rfl, trivial⟩ (ih (i + 1) _ _ (by omega) (by omega) x1 (fun j hj => by
        by_cases z : j = i
        · rw [z]; exact xw_s
        · rw [xw_n z]; exact hv j (by omega)) (hF.tr y1))

theorem c_fiL {S : XSc} {d : Nat} {h : XH} {Q : XO → XH → Prop} {a n : Nat} {v : Int64} {w : Nat → Int64} (h32 : 32 ≤ a) (hn : n ≤ 65536) (hf : LA h.1 a n w) (k : ∀ f, LA f a n (fun _ => v) → Fr h.1 f a (a + 1) → Q (.inl none) (f, h.2)) : xP S d 291 0 [(0, .ref a), (1, .long v)] [] h Q := by
  obtain ⟨F, g1, g2⟩ := id hf
  refine xs_f 1 r_291_0 rfl ?_
  refine xs_f 2 (lv2 := [(3, _), (0, _), (1, _)]) r_291_1 rfl ?_
  refine xs_f 3 r_291_2 rfl ?_
  refine xs_len 4 r_291_3 rfl (xarr_h (by omega) g1) ?_
  refine xs_f 6 (lv2 := [(4, _), (3, _), (0, _), (1, _)]) r_291_4 rfl ?_
  exact xP_lv [(0, .ref a), (1, .long v), (3, .int (nI 0)), (4, .int (nI n))] rfl ⟨rfl, rfl, rfl, rfl, trivial⟩ (l_fiL h32 hn k (n + 1) 0 h.1 w (by omega) (by omega) hf (fun j hj => absurd hj (Nat.not_lt_zero _)) Fr.rf)

/-- the rows of coverage -/
def CvP (f : Nat → Option XE) (c : Nat) (W : Nat → Nat → Int64) (lo hi : Nat → Int32) : Prop :=
  f c = some (.inr (3, [.ref (c + 1), .ref (c + 8), .ref (c + 9)])) ∧ RA f 9 (c + 1) 6 (fun j => c + 2 + j) ∧ (∀ j, j < 6 → LA f (c + 2 + j) 16 (W j)) ∧ IA f 0 (c + 8) 5 lo ∧ IA f 0 (c + 9) 5 hi
section CVP
variable {f g : Nat → Option XE} {c : Nat} {W : Nat → Nat → Int64} {lo hi : Nat → Int32}
theorem CvP.fr (h : CvP f c W lo hi) (e : ∀ x, c ≤ x → x < c + 10 → g x = f x) : CvP g c W lo hi := by
  obtain ⟨h1, h2, h3, h4, h5⟩ := h
  exact ⟨(e _ (by omega) (by omega)).trans h1, h2.fr (e _ (by omega) (by omega)), fun j hj => (h3 j hj).fr (e _ (by omega) (by omega)), h4.fr (e _ (by omega) (by omega)), h5.fr (e _ (by omega) (by omega))⟩
theorem CvP.row (h : CvP f c W lo hi) {j : Nat} (hj : j < 6) {v : Nat → Int64} (hg : LA g (c + 2 + j) 16 v) (hF : Fr f g (c + 2 + j) (c + 2 + j + 1)) : CvP g c (xw W j v) lo hi := by
  obtain ⟨h1, h2, h3, h4, h5⟩ := h
  refine ⟨(hF _ (by omega)).trans h1, h2.fr (hF _ (by omega)), fun i hi => ?_, h4.fr (hF _ (by omega)), h5.fr (hF _ (by omega))⟩
  by_cases z : i = j
  · rw [z, xw_s]; exact hg
  · rw [xw_n z]; exact (h3 i hi).fr (hF _ (by omega))
theorem CvP.slo (h : CvP f c W lo hi) {v : Nat → Int32} (hg : IA g 0 (c + 8) 5 v) (hF : Fr f g (c + 8) (c + 9)) : CvP g c W v hi := by
  obtain ⟨h1, h2, h3, h4, h5⟩ := h
  exact ⟨(hF _ (by omega)).trans h1, h2.fr (hF _ (by omega)), fun i hi => (h3 i hi).fr (hF _ (by omega)), hg, h5.fr (hF _ (by omega))⟩
theorem CvP.shi (h : CvP f c W lo hi) {v : Nat → Int32} (hg : IA g 0 (c + 9) 5 v) (hF : Fr f g (c + 9) (c + 10)) : CvP g c W lo v := by
  obtain ⟨h1, h2, h3, h4, h5⟩ := h
  exact ⟨(hF _ (by omega)).trans h1, h2.fr (hF _ (by omega)), fun i hi => (h3 i hi).fr (hF _ (by omega)), h4.fr (hF _ (by omega)), hg⟩
theorem CvP.ex (h : CvP f c W lo hi) {W2 : Nat → Nat → Int64} (e : ∀ j, j < 6 → ∀ w, w < 16 → W j w = W2 j w) : CvP f c W2 lo hi :=
  ⟨h.1, h.2.1, fun j hj => (h.2.2.1 j hj).ex (fun w hw => e j hj w hw), h.2.2.2⟩
end CVP
/-- one interval more: the level l holds what at least l intervals cover -/
def addW (W : Nat → Nat → Int64) (l u top : Nat) : Nat → Nat → Int64 := fun v w => if v = 0 ∨ (top < v ∧ v ≠ 1) then W v w else if v = 1 then W 1 w ||| ivb l u w else W v w ||| (W (v - 1) w &&& ivb l u w)
/-- down to the level t of the word w, all levels of the words before -/
def addP (W : Nat → Nat → Int64) (l u top w t : Nat) : Nat → Nat → Int64 := fun v x => if x < w ∨ (x = w ∧ t < v) then addW W l u top v x else W v x
theorem vl_53b {S : XSc} {d : Nat} {h : XH} {Q : XO → XH → Prop} {c : Nat} {W : Nat → Nat → Int64} {lo hi : Nat → Int32} (h32 : 32 ≤ c) {ea : Nat} {e : XEst} {l u : Nat} (hl : l ≤ 999) (hu : u ≤ 999) (hE : h.1 ea = some (.inr (4, eL e))) (hea : ea < c ∨ c + 10 ≤ ea) (h1 : e.2.1 = nI l) (h2 : e.2.2.1 = nI u) {top : Nat} (ht1 : 1 ≤ top) (ht : top ≤ 5) {w : Nat} (hw : w < 16) (k : ∀ f, CvP f c (addP W l u top w 1) lo hi → Fr h.1 f c (c + 10) → xP S (d + 1) 53 63 [(6, .int (nI 1)), (4, .long (ivb l u w)), (0, .ref c), (1, .ref ea), (2, .int (nI top)), (3, .int (nI w))] [] (f, h.2) Q) : ∀ (m : Nat) (t : Nat) (f : Nat → Option XE), t < m → (1 ≤ t) → (t ≤ top) → (CvP f c (addP W l u top w t) lo hi) → (Fr h.1 f c (c + 10)) → xP S (d + 1) 53 25 [(6, .int (nI t)), (4, .long (ivb l u w)), (0, .ref c), (1, .ref ea), (2, .int (nI top)), (3, .int (nI w))] [] (f, h.2) Q := by
  intro m
  induction m with
  | zero => intro t f hm; exact absurd hm (Nat.not_lt_zero _)
  | succ m ih =>
    intro t f hm ht1 ht2 hC1 hF
    obtain ⟨g1, g2, g3, g4, g5⟩ := id hC1
    have hr1 : addP W l u top w t t w = W t w := if_neg (by omega)
    have hr2 : addP W l u top w t (t - 1) w = W (t - 1) w := if_neg (by omega)
    refine xs_f 27 r_53_25 rfl ?_
    refine xs_f 28 r_53_27 rfl ?_
    refine xs_if 63 31 r_53_28 rfl (fun hc1 => ?_) (fun hc1 => ?_)
    · have hc1 := (nI_leN rfl (nI_k 1) (by omega) (by omega)).mp hc1
      have e : t = 1 := by omega
      subst e
      exact k f hC1 hF
    · have hc1 := mt (nI_leN rfl (nI_k 1) (by omega) (by omega)).mpr hc1
      refine xs_f 32 r_53_31 rfl ?_
      refine xs_get 35 r_53_32 rfl rfl (by first | assumption | exact xup_s | exact g1 | (refine (xup_n (by omega)).trans ?_; first | assumption | exact xup_s | exact g1) | (refine (xup_n (by omega)).trans ((xup_n (by omega)).trans ?_); first | assumption | exact xup_s | exact g1) | (refine (xup_n (by omega)).trans ((xup_n (by omega)).trans ((xup_n (by omega)).trans ?_)); first | assumption | exact xup_s | exact g1)) (by rfl) ?_
      refine xs_f 37 r_53_35 rfl ?_
      refine xs_aldR 38 r_53_37 (fun _ _ => rfl) rfl rfl rfl (j := t) rfl (by first | assumption | exact g2 | exact (g3 _ (by omega)) | (refine RA.fr ?_ (xup_n (by omega)); first | assumption | exact g2 | exact (g3 _ (by omega))) | (refine RA.fr (RA.fr ?_ (xup_n (by omega))) (xup_n (by omega)); first | assumption | exact g2 | exact (g3 _ (by omega))) | (refine RA.fr (RA.fr (RA.fr ?_ (xup_n (by omega))) (xup_n (by omega))) (xup_n (by omega)); first | assumption | exact g2 | exact (g3 _ (by omega)))) (by omega) ?_
      refine xs_f 39 r_53_38 rfl ?_
      refine xs_f 40 r_53_39 rfl ?_
      refine xs_aldL 41 r_53_40 (fun _ _ => rfl) rfl rfl rfl (j := w) rfl (by first | assumption | exact g2 | exact (g3 _ (by omega)) | (refine LA.fr ?_ (xup_n (by omega)); first | assumption | exact g2 | exact (g3 _ (by omega))) | (refine LA.fr (LA.fr ?_ (xup_n (by omega))) (xup_n (by omega)); first | assumption | exact g2 | exact (g3 _ (by omega))) | (refine LA.fr (LA.fr (LA.fr ?_ (xup_n (by omega))) (xup_n (by omega))) (xup_n (by omega)); first | assumption | exact g2 | exact (g3 _ (by omega)))) (by omega) ?_
      rw [hr1]
      refine xs_f 42 r_53_41 rfl ?_
      refine xs_get 45 r_53_42 rfl rfl (by first | assumption | exact xup_s | exact g1 | (refine (xup_n (by omega)).trans ?_; first | assumption | exact xup_s | exact g1) | (refine (xup_n (by omega)).trans ((xup_n (by omega)).trans ?_); first | assumption | exact xup_s | exact g1) | (refine (xup_n (by omega)).trans ((xup_n (by omega)).trans ((xup_n (by omega)).trans ?_)); first | assumption | exact xup_s | exact g1)) (by rfl) ?_
      refine xs_f 47 r_53_45 rfl ?_
      refine xs_f 48 r_53_47 rfl ?_
      refine xs_f 49 r_53_48 rfl ?_
      refine xs_aldR 50 r_53_49 (fun _ _ => rfl) rfl rfl rfl (j := (t - 1)) (nI_subE rfl (nI_k 1) (by omega)) (by first | assumption | exact g2 | exact (g3 _ (by omega)) | (refine RA.fr ?_ (xup_n (by omega)); first | assumption | exact g2 | exact (g3 _ (by omega))) | (refine RA.fr (RA.fr ?_ (xup_n (by omega))) (xup_n (by omega)); first | assumption | exact g2 | exact (g3 _ (by omega))) | (refine RA.fr (RA.fr (RA.fr ?_ (xup_n (by omega))) (xup_n (by omega))) (xup_n (by omega)); first | assumption | exact g2 | exact (g3 _ (by omega)))) (by omega) ?_
      refine xs_f 51 r_53_50 rfl ?_
      refine xs_aldL 52 r_53_51 (fun _ _ => rfl) rfl rfl rfl (j := w) rfl (by first | assumption | exact g2 | exact (g3 _ (by omega)) | (refine LA.fr ?_ (xup_n (by omega)); first | assumption | exact g2 | exact (g3 _ (by omega))) | (refine LA.fr (LA.fr ?_ (xup_n (by omega))) (xup_n (by omega)); first | assumption | exact g2 | exact (g3 _ (by omega))) | (refine LA.fr (LA.fr (LA.fr ?_ (xup_n (by omega))) (xup_n (by omega))) (xup_n (by omega)); first | assumption | exact g2 | exact (g3 _ (by omega)))) (by omega) ?_
      rw [hr2]
      refine xs_f 54 r_53_52 rfl ?_
      refine xs_f 55 r_53_54 rfl ?_
      refine xs_f 56 r_53_55 rfl ?_
      refine xs_astL 57 r_53_56 (fun _ _ => rfl) rfl rfl rfl (j := w) rfl (by first | assumption | exact g2 | exact (g3 _ (by omega)) | (refine LA.fr ?_ (xup_n (by omega)); first | assumption | exact g2 | exact (g3 _ (by omega))) | (refine LA.fr (LA.fr ?_ (xup_n (by omega))) (xup_n (by omega)); first | assumption | exact g2 | exact (g3 _ (by omega))) | (refine LA.fr (LA.fr (LA.fr ?_ (xup_n (by omega))) (xup_n (by omega))) (xup_n (by omega)); first | assumption | exact g2 | exact (g3 _ (by omega)))) (by omega) (fun f1 x1 y1 => ?_)
      refine xs_f 60 (lv2 := [(6, _), (4, _), (0, _), (1, _), (2, _), (3, _)]) r_53_57 rfl ?_
      refine xs_f 25 r_53_60 rfl ?_
      exact xP_lv [(6, .int (nI (t - 1))), (4, .long (ivb l u w)), (0, .ref c), (1, .ref ea), (2, .int (nI top)), (3, .int (nI w))] rfl ⟨(by rw [← nI_decE (x := nI t) rfl 1 (by omega)]; rfl), rfl, rfl, rfl, rfl, rfl, trivial⟩ (ih (t - 1) _ (by omega) (by omega) (by omega) ((hC1.row (j := t) (by omega) x1 y1).ex (fun v hv x hx => by
          have hz : addW W l u top t w = W t w ||| (W (t - 1) w &&& ivb l u w) := by
            unfold addW
            rw [if_neg (by omega), if_neg (by omega)]
          unfold xw
          by_cases zv : v = t
          · subst zv
            rw [if_pos rfl]
            by_cases zx : x = w
            · subst zx
              rw [if_pos rfl]
              unfold addP
              rw [if_pos (by omega), hz]
            · rw [if_neg zx]
              unfold addP
              by_cases z2 : x < w
              · rw [if_pos (by omega), if_pos (by omega)]
              · rw [if_neg (by omega), if_neg (by omega)]
          · rw [if_neg zv]
            unfold addP
            by_cases z2 : x < w ∨ (x = w ∧ t < v)
            · rw [if_pos z2, if_pos (by omega)]
            · rw [if_neg z2, if_neg (by omega)])) (hF.tr (y1.wd (by omega) (by omega))))

theorem vl_53a {S : XSc} {d : Nat} {h : XH} {Q : XO → XH → Prop} {c : Nat} {W : Nat → Nat → Int64} {lo hi : Nat → Int32} (h32 : 32 ≤ c) {ea : Nat} {e : XEst} {l u : Nat} (hl : l ≤ 999) (hu : u ≤ 999) (hE : h.1 ea = some (.inr (4, eL e))) (hea : ea < c ∨ c + 10 ≤ ea) (h1 : e.2.1 = nI l) (h2 : e.2.2.1 = nI u) {top : Nat} (ht1 : 1 ≤ top) (ht : top ≤ 5) (k : ∀ f, CvP f c (addW W l u top) lo hi → Fr h.1 f c (c + 10) → Q (.inl none) (f, h.2)) : ∀ (m : Nat) (w : Nat) (f : Nat → Option XE), 16 - w < m → (w ≤ 16) → (CvP f c (addP W l u top w 9) lo hi) → (Fr h.1 f c (c + 10)) → xP S (d + 1) 53 2 [(0, .ref c), (1, .ref ea), (2, .int (nI top)), (3, .int (nI w))] [] (f, h.2) Q := by
  intro m
  induction m with
  | zero => intro w f hm; exact absurd hm (Nat.not_lt_zero _)
  | succ m ih =>
    intro w f hm hw hC1 hF
    have he9 := (hF ea (by omega)).trans hE
    refine xs_f 3 r_53_2 rfl ?_
    refine xs_f 5 r_53_3 rfl ?_
    refine xs_if 82 8 r_53_5 rfl (fun hc1 => ?_) (fun hc1 => ?_)
    · have hc1 := (nI_leN (nI_k 16) rfl (by omega) (by omega)).mp hc1
      refine xs_ret r_53_82 rfl ?_
      have e : w = 16 := by omega
      subst e
      exact k f (hC1.ex (fun v hv x hx => if_pos (Or.inl hx))) hF
    · have hc1 := mt (nI_leN (nI_k 16) rfl (by omega) (by omega)).mpr hc1
      refine xs_f 9 r_53_8 rfl ?_
      refine xs_get 12 r_53_9 rfl rfl (by first | assumption | exact xup_s | exact he9 | (refine (xup_n (by omega)).trans ?_; first | assumption | exact xup_s | exact he9) | (refine (xup_n (by omega)).trans ((xup_n (by omega)).trans ?_); first | assumption | exact xup_s | exact he9) | (refine (xup_n (by omega)).trans ((xup_n (by omega)).trans ((xup_n (by omega)).trans ?_)); first | assumption | exact xup_s | exact he9)) (show _ = some (Value.int (nI l)) from congrArg (fun z => some (Value.int z)) h1) ?_
      refine xs_f 13 r_53_12 rfl ?_
      refine xs_get 16 r_53_13 rfl rfl (by first | assumption | exact xup_s | exact he9 | (refine (xup_n (by omega)).trans ?_; first | assumption | exact xup_s | exact he9) | (refine (xup_n (by omega)).trans ((xup_n (by omega)).trans ?_); first | assumption | exact xup_s | exact he9) | (refine (xup_n (by omega)).trans ((xup_n (by omega)).trans ((xup_n (by omega)).trans ?_)); first | assumption | exact xup_s | exact he9)) (show _ = some (Value.int (nI u)) from congrArg (fun z => some (Value.int z)) h2) ?_
      refine xs_f 17 r_53_16 rfl ?_
      refine xs_call (lv2 := [(0, _), (1, _), (2, _)]) r_53_17 rfl rfl (by decide) (xcan_1 rfl) rfl (v_54 hl hu (by omega) ?_)
      refine xK_v rfl ?_
      refine xs_f 22 (lv2 := [(4, _), (0, _), (1, _), (2, _), (3, _)]) r_53_20 rfl ?_
      refine xs_f 23 r_53_22 rfl ?_
      refine xs_f 25 (lv2 := [(6, _), (4, _), (0, _), (1, _), (2, _), (3, _)]) r_53_23 rfl ?_
      refine vl_53b (W := W) (h := (f, h.2)) h32 hl hu he9 hea h1 h2 ht1 ht (by omega) (fun f1 x1 y1 => ?_) (top + 1) top f (by omega) (by omega) (by omega) (hC1.ex (fun v hv x hx => ?_)) Fr.rf
      rotate_left
      · unfold addP
        by_cases z : x < w
        · rw [if_pos (by omega), if_pos (by omega)]
        · by_cases z2 : x = w ∧ top < v
          · rw [if_neg (by omega), if_pos (by omega)]
            unfold addW
            rw [if_pos (by omega)]
          · rw [if_neg (by omega), if_neg (by omega)]
      obtain ⟨g1, g2, g3, g4, g5⟩ := id x1
      have hr1 : addP W l u top w 1 1 w = W 1 w := if_neg (by omega)
      refine xs_f 64 r_53_63 rfl ?_
      refine xs_get 67 r_53_64 rfl rfl (by first | assumption | exact xup_s | exact g1 | (refine (xup_n (by omega)).trans ?_; first | assumption | exact xup_s | exact g1) | (refine (xup_n (by omega)).trans ((xup_n (by omega)).trans ?_); first | assumption | exact xup_s | exact g1) | (refine (xup_n (by omega)).trans ((xup_n (by omega)).trans ((xup_n (by omega)).trans ?_)); first | assumption | exact xup_s | exact g1)) (by rfl) ?_
      refine xs_f 68 r_53_67 rfl ?_
      refine xs_aldR 69 r_53_68 (fun _ _ => rfl) rfl rfl rfl (j := 1) (nI_k 1) (by first | assumption | exact g2 | exact (g3 _ (by omega)) | (refine RA.fr ?_ (xup_n (by omega)); first | assumption | exact g2 | exact (g3 _ (by omega))) | (refine RA.fr (RA.fr ?_ (xup_n (by omega))) (xup_n (by omega)); first | assumption | exact g2 | exact (g3 _ (by omega))) | (refine RA.fr (RA.fr (RA.fr ?_ (xup_n (by omega))) (xup_n (by omega))) (xup_n (by omega)); first | assumption | exact g2 | exact (g3 _ (by omega)))) (by omega) ?_
      refine xs_f 70 r_53_69 rfl ?_
      refine xs_f 71 r_53_70 rfl ?_
      refine xs_aldL 72 r_53_71 (fun _ _ => rfl) rfl rfl rfl (j := w) rfl (by first | assumption | exact g2 | exact (g3 _ (by omega)) | (refine LA.fr ?_ (xup_n (by omega)); first | assumption | exact g2 | exact (g3 _ (by omega))) | (refine LA.fr (LA.fr ?_ (xup_n (by omega))) (xup_n (by omega)); first | assumption | exact g2 | exact (g3 _ (by omega))) | (refine LA.fr (LA.fr (LA.fr ?_ (xup_n (by omega))) (xup_n (by omega))) (xup_n (by omega)); first | assumption | exact g2 | exact (g3 _ (by omega)))) (by omega) ?_
      rw [hr1]
      refine xs_f 74 r_53_72 rfl ?_
      refine xs_f 75 r_53_74 rfl ?_
      refine xs_astL 76 r_53_75 (fun _ _ => rfl) rfl rfl rfl (j := w) rfl (by first | assumption | exact g2 | exact (g3 _ (by omega)) | (refine LA.fr ?_ (xup_n (by omega)); first | assumption | exact g2 | exact (g3 _ (by omega))) | (refine LA.fr (LA.fr ?_ (xup_n (by omega))) (xup_n (by omega)); first | assumption | exact g2 | exact (g3 _ (by omega))) | (refine LA.fr (LA.fr (LA.fr ?_ (xup_n (by omega))) (xup_n (by omega))) (xup_n (by omega)); first | assumption | exact g2 | exact (g3 _ (by omega)))) (by omega) (fun f2 x2 y2 => ?_)
      refine xs_f 79 (lv2 := [(3, _), (6, _), (4, _), (0, _), (1, _), (2, _)]) r_53_76 rfl ?_
      refine xs_f 2 r_53_79 rfl ?_
      exact xP_lv [(0, .ref c), (1, .ref ea), (2, .int (nI top)), (3, .int (nI (w + 1)))] rfl ⟨rfl, rfl, rfl, (by rw [nI_succ w]; rfl), trivial⟩ (ih (w + 1) _ (by omega) (by omega) ((x1.row (j := 1) (by omega) x2 y2).ex (fun v hv x hx => by
          have hz : addW W l u top 1 w = W 1 w ||| ivb l u w := by
            unfold addW
            rw [if_neg (by omega), if_pos rfl]
          have hz0 : ∀ y, addW W l u top 0 y = W 0 y := fun y => if_pos (Or.inl rfl)
          unfold xw
          by_cases zv : v = 1
          · subst zv
            rw [if_pos rfl]
            by_cases zx : x = w
            · subst zx
              rw [if_pos rfl]
              unfold addP
              rw [if_pos (by omega), hz]
            · rw [if_neg zx]
              unfold addP
              by_cases z2 : x < w
              · rw [if_pos (by omega), if_pos (by omega)]
              · rw [if_neg (by omega), if_neg (by omega)]
          · rw [if_neg zv]
            unfold addP
            by_cases z2 : x < w ∨ (x = w ∧ 1 < v)
            · rw [if_pos z2]
              by_cases z3 : x < w + 1 ∨ (x = w + 1 ∧ 9 < v)
              · rw [if_pos z3]
              · exact absurd (Or.inl (by omega)) z3
            · rw [if_neg z2]
              by_cases z3 : x = w
              · have e0 : v = 0 := by omega
                subst e0
                rw [if_pos (by omega), hz0]
              · rw [if_neg (by omega)])) ((hF.tr y1).tr (y2.wd (by omega) (by omega))))

theorem v_53 {S : XSc} {d : Nat} {h : XH} {Q : XO → XH → Prop} {c : Nat} {W : Nat → Nat → Int64} {lo hi : Nat → Int32} (h32 : 32 ≤ c) (hC : CvP h.1 c W lo hi) {ea : Nat} {e : XEst} {l u : Nat} (hl : l ≤ 999) (hu : u ≤ 999) (hE : h.1 ea = some (.inr (4, eL e))) (hea : ea < c ∨ c + 10 ≤ ea) (h1 : e.2.1 = nI l) (h2 : e.2.2.1 = nI u) {top : Nat} (ht1 : 1 ≤ top) (ht : top ≤ 5) (k : ∀ f, CvP f c (addW W l u top) lo hi → Fr h.1 f c (c + 10) → Q (.inl none) (f, h.2)) : xP S (d + 1) 53 0 [(0, .ref c), (1, .ref ea), (2, .int (nI top))] [] h Q := by
  refine xs_f 1 r_53_0 rfl ?_
  refine xs_f 2 (lv2 := [(3, _), (0, _), (1, _), (2, _)]) r_53_1 rfl ?_
  exact xP_lv [(0, .ref c), (1, .ref ea), (2, .int (nI top)), (3, .int (nI 0))] rfl ⟨rfl, rfl, rfl, rfl, trivial⟩ (vl_53a h32 hl hu hE hea h1 h2 ht1 ht k 17 0 h.1 (by omega) (by omega) (hC.ex (fun v hv x hx => (if_neg (by omega)).symm)) Fr.rf)

