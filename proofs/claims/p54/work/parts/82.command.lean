/-! a command is read -/
def lenF (j : Nat) : Nat := ([6, 6, 15, 8, 5, 5] : List Nat).getD j 0
def rd1 (Bu : Nat → Int32) (n s j : Nat) (nu : Nat → Int32) : XPs := rdF Bu n (fun i => (xfB j).getD i 0) (true, (s, (0, nu))) (lenF j)
abbrev XPa : Type := Option Nat × (Nat × (Nat × (Nat → Int32)))
/-- the forms from j on, m of them; far: the farthest place that one of them reached -/
def rdA (Bu : Nat → Int32) (n s : Nat) : Nat → Nat → Nat → Nat → (Nat → Int32) → XPa
  | 0, _, far, c, nu => (none, (far, (c, nu)))
  | m + 1, j, far, c, nu => bif (rd1 Bu n s j nu).1 then (some j, (rd1 Bu n s j nu).2) else rdA Bu n s m (j + 1) (max far (rd1 Bu n s j nu).2.1) (rd1 Bu n s j nu).2.2.1 (rd1 Bu n s j nu).2.2.2
def cmdV (o : Option Nat) : Value := match o with
  | none => .null
  | some j => .ref (6 + j)
theorem max_E {a b : Nat} (ha : a ≤ 100000) (hb : b ≤ 100000) : (if nI a < nI b then nI b else nI a) = nI (max a b) := by
  by_cases z : a < b
  · rw [if_pos ((nI_ltN rfl rfl (by omega) (by omega)).mpr z), show max a b = b by omega]
  · rw [if_neg (mt (nI_ltN rfl rfl (by omega) (by omega)).mp z), show max a b = a by omega]
theorem el_43_6 {S : XSc} {d : Nat} {h : XH} {Q : XO → XH → Prop} {t n p c : Nat} {Bu nu : Nat → Int32} (hT : TxP h.1 t n p c Bu nu) (h32 : 32 ≤ t) {s far : Nat} (hs : s ≤ n) (hf : far ≤ n) (k : ∀ f, TxP f t n (rdA Bu n s 0 6 far c nu).2.1 (rdA Bu n s 0 6 far c nu).2.2.1 Bu (rdA Bu n s 0 6 far c nu).2.2.2 → (rdA Bu n s 0 6 far c nu).2.1 ≤ n → Fr h.1 f t (t + 3) → Q (.inl (some (cmdV (rdA Bu n s 0 6 far c nu).1))) (f, h.2)) : xP S (d + 5) 43 9 [(0, .ref t), (1, .int (nI s)), (2, .int (nI far)), (3, .int (nI 6))] [] h Q := by
  obtain ⟨t1, t2, t3, t4, t5, t6⟩ := id hT
  refine xs_f 10 r_43_9 rfl ?_
  refine xs_gst 13 r_43_10 rfl ?_
  refine xs_len 14 r_43_13 rfl (xarr_r rfl rfl) ?_
  refine xs_f 58 r_43_14 rfl ?_
  refine xs_f 59 r_43_58 rfl ?_
  refine xs_f 60 r_43_59 rfl ?_
  refine xs_putC 63 r_43_60 rfl (by first | assumption | exact xup_s | exact t1 | (refine (xup_n (by omega)).trans ?_; first | assumption | exact xup_s | exact t1) | (refine (xup_n (by omega)).trans ((xup_n (by omega)).trans ?_); first | assumption | exact xup_s | exact t1) | (refine (xup_n (by omega)).trans ((xup_n (by omega)).trans ((xup_n (by omega)).trans ?_)); first | assumption | exact xup_s | exact t1)) (by rfl) (by rfl) (fun f1 x1 y1 => ?_)
  refine xs_f 64 r_43_63 rfl ?_
  refine xs_ret r_43_64 rfl ?_
  exact k f1 ⟨x1, t2.fr (y1 _ (by omega)), t3.fr (y1 _ (by omega)), t4, by show far ≤ 60; omega, t6⟩ hf (y1.wd (by omega) (by omega))

theorem el_43_5 {S : XSc} {d : Nat} {h : XH} {Q : XO → XH → Prop} {t n p c : Nat} {Bu nu : Nat → Int32} (hT : TxP h.1 t n p c Bu nu) (h32 : 32 ≤ t) {s far : Nat} (hs : s ≤ n) (hf : far ≤ n) (k : ∀ f, TxP f t n (rdA Bu n s 1 5 far c nu).2.1 (rdA Bu n s 1 5 far c nu).2.2.1 Bu (rdA Bu n s 1 5 far c nu).2.2.2 → (rdA Bu n s 1 5 far c nu).2.1 ≤ n → Fr h.1 f t (t + 3) → Q (.inl (some (cmdV (rdA Bu n s 1 5 far c nu).1))) (f, h.2)) : xP S (d + 5) 43 9 [(0, .ref t), (1, .int (nI s)), (2, .int (nI far)), (3, .int (nI 5))] [] h Q := by
  obtain ⟨t1, t2, t3, t4, t5, t6⟩ := id hT
  refine xs_f 10 r_43_9 rfl ?_
  refine xs_gst 13 r_43_10 rfl ?_
  refine xs_len 14 r_43_13 rfl (xarr_r rfl rfl) ?_
  refine xs_f 17 r_43_14 rfl ?_
  refine xs_f 18 r_43_17 rfl ?_
  refine xs_f 19 r_43_18 rfl ?_
  refine xs_putC 22 r_43_19 rfl (by first | assumption | exact xup_s | exact t1 | (refine (xup_n (by omega)).trans ?_; first | assumption | exact xup_s | exact t1) | (refine (xup_n (by omega)).trans ((xup_n (by omega)).trans ?_); first | assumption | exact xup_s | exact t1) | (refine (xup_n (by omega)).trans ((xup_n (by omega)).trans ((xup_n (by omega)).trans ?_)); first | assumption | exact xup_s | exact t1)) (by rfl) (by rfl) (fun f1 x1 y1 => ?_)
  have hT1 : TxP f1 t n s c Bu nu := ⟨x1, t2.fr (y1 _ (by omega)), t3.fr (y1 _ (by omega)), t4, by omega, t6⟩
  have o1 := hT1.1
  refine xs_f 23 r_43_22 rfl ?_
  refine xs_gst 26 r_43_23 rfl ?_
  refine xs_f 27 r_43_26 rfl ?_
  refine xs_ald 28 4 r_43_27 (fun _ _ => rfl) rfl rfl rfl (j := 5) rfl (xarr_r rfl rfl) rfl (by decide) (by decide) rfl ?_
  refine xs_ext 31 r_43_28 rfl rfl rfl rfl ?_
  refine xs_call (lv2 := [(0, _), (1, _)]) r_43_31 rfl rfl (by decide) (xcan_0 rfl rfl o1 (by rfl)) rfl (e_45_5 (h := (f1, h.2)) hT1 h32 hs (fun f2 x2 q2 y2 => ?_))
  refine xK_v rfl ?_
  have x2 : TxP f2 t n (rd1 Bu n s 5 nu).2.1 (rd1 Bu n s 5 nu).2.2.1 Bu (rd1 Bu n s 5 nu).2.2.2 := x2
  have q2 : (rd1 Bu n s 5 nu).2.1 ≤ n := q2
  have y12 := (y1.wd (a := t) (b := t + 3) (by omega) (by omega)).tr y2
  refine xs_if 43 37 r_43_34 rfl (fun hb => ?_) (fun hb => ?_)
  · have hb2 : (rd1 Bu n s 5 nu).1 = false := (bI_0 _).mp hb
    have e9 : (rdA Bu n s 1 5 far c nu) = (rdA Bu n s 0 6 (max far (rd1 Bu n s 5 nu).2.1) (rd1 Bu n s 5 nu).2.2.1 (rd1 Bu n s 5 nu).2.2.2) := by
      show (bif (rd1 Bu n s 5 nu).1 then _ else _) = _
      rw [hb2, cond_false]
    rw [e9] at k
    have o2 := x2.1
    refine xs_f 44 r_43_43 rfl ?_
    refine xs_f 45 r_43_44 rfl ?_
    refine xs_get 48 r_43_45 rfl rfl o2 (by rfl) ?_
    refine xs_ext 51 r_43_48 rfl rfl rfl rfl ?_
    refine xs_f 52 (lv2 := [(2, _), (0, _), (1, _), (3, _)]) r_43_51 rfl ?_
    refine xs_f 55 (lv2 := [(3, _), (2, _), (0, _), (1, _)]) r_43_52 rfl ?_
    refine xs_f 9 r_43_55 rfl ?_
    exact xP_lv [(0, .ref t), (1, .int (nI s)), (2, .int (nI (max far (rd1 Bu n s 5 nu).2.1))), (3, .int (nI 6))] rfl ⟨rfl, rfl, (congrArg (fun z => some (Value.int z)) (max_E (by omega) (by omega))), rfl, trivial⟩ (el_43_6 (h := (f2, h.2)) x2 h32 hs (Nat.max_le.mpr ⟨hf, q2⟩) (fun f3 x3 q3 y3 => k f3 x3 q3 (y12.tr y3)))
  · have hb2 : (rd1 Bu n s 5 nu).1 = true := by
      cases hz : (rd1 Bu n s 5 nu).1
      · exact absurd ((bI_0 _).mpr hz) hb
      · rfl
    have e9 : (rdA Bu n s 1 5 far c nu) = (some 5, (rd1 Bu n s 5 nu).2) := by
      show (bif (rd1 Bu n s 5 nu).1 then _ else _) = _
      rw [hb2, cond_true]
    rw [e9] at k
    refine xs_gst 40 r_43_37 rfl ?_
    refine xs_f 41 r_43_40 rfl ?_
    refine xs_ald 42 4 r_43_41 (fun _ _ => rfl) rfl rfl rfl (j := 5) rfl (xarr_r rfl rfl) rfl (by decide) (by decide) rfl ?_
    refine xs_ret r_43_42 rfl ?_
    exact k f2 x2 q2 y12

theorem el_43_4 {S : XSc} {d : Nat} {h : XH} {Q : XO → XH → Prop} {t n p c : Nat} {Bu nu : Nat → Int32} (hT : TxP h.1 t n p c Bu nu) (h32 : 32 ≤ t) {s far : Nat} (hs : s ≤ n) (hf : far ≤ n) (k : ∀ f, TxP f t n (rdA Bu n s 2 4 far c nu).2.1 (rdA Bu n s 2 4 far c nu).2.2.1 Bu (rdA Bu n s 2 4 far c nu).2.2.2 → (rdA Bu n s 2 4 far c nu).2.1 ≤ n → Fr h.1 f t (t + 3) → Q (.inl (some (cmdV (rdA Bu n s 2 4 far c nu).1))) (f, h.2)) : xP S (d + 5) 43 9 [(0, .ref t), (1, .int (nI s)), (2, .int (nI far)), (3, .int (nI 4))] [] h Q := by
  obtain ⟨t1, t2, t3, t4, t5, t6⟩ := id hT
  refine xs_f 10 r_43_9 rfl ?_
  refine xs_gst 13 r_43_10 rfl ?_
  refine xs_len 14 r_43_13 rfl (xarr_r rfl rfl) ?_
  refine xs_f 17 r_43_14 rfl ?_
  refine xs_f 18 r_43_17 rfl ?_
  refine xs_f 19 r_43_18 rfl ?_
  refine xs_putC 22 r_43_19 rfl (by first | assumption | exact xup_s | exact t1 | (refine (xup_n (by omega)).trans ?_; first | assumption | exact xup_s | exact t1) | (refine (xup_n (by omega)).trans ((xup_n (by omega)).trans ?_); first | assumption | exact xup_s | exact t1) | (refine (xup_n (by omega)).trans ((xup_n (by omega)).trans ((xup_n (by omega)).trans ?_)); first | assumption | exact xup_s | exact t1)) (by rfl) (by rfl) (fun f1 x1 y1 => ?_)
  have hT1 : TxP f1 t n s c Bu nu := ⟨x1, t2.fr (y1 _ (by omega)), t3.fr (y1 _ (by omega)), t4, by omega, t6⟩
  have o1 := hT1.1
  refine xs_f 23 r_43_22 rfl ?_
  refine xs_gst 26 r_43_23 rfl ?_
  refine xs_f 27 r_43_26 rfl ?_
  refine xs_ald 28 4 r_43_27 (fun _ _ => rfl) rfl rfl rfl (j := 4) rfl (xarr_r rfl rfl) rfl (by decide) (by decide) rfl ?_
  refine xs_ext 31 r_43_28 rfl rfl rfl rfl ?_
  refine xs_call (lv2 := [(0, _), (1, _)]) r_43_31 rfl rfl (by decide) (xcan_0 rfl rfl o1 (by rfl)) rfl (e_45_4 (h := (f1, h.2)) hT1 h32 hs (fun f2 x2 q2 y2 => ?_))
  refine xK_v rfl ?_
  have x2 : TxP f2 t n (rd1 Bu n s 4 nu).2.1 (rd1 Bu n s 4 nu).2.2.1 Bu (rd1 Bu n s 4 nu).2.2.2 := x2
  have q2 : (rd1 Bu n s 4 nu).2.1 ≤ n := q2
  have y12 := (y1.wd (a := t) (b := t + 3) (by omega) (by omega)).tr y2
  refine xs_if 43 37 r_43_34 rfl (fun hb => ?_) (fun hb => ?_)
  · have hb2 : (rd1 Bu n s 4 nu).1 = false := (bI_0 _).mp hb
    have e9 : (rdA Bu n s 2 4 far c nu) = (rdA Bu n s 1 5 (max far (rd1 Bu n s 4 nu).2.1) (rd1 Bu n s 4 nu).2.2.1 (rd1 Bu n s 4 nu).2.2.2) := by
      show (bif (rd1 Bu n s 4 nu).1 then _ else _) = _
      rw [hb2, cond_false]
    rw [e9] at k
    have o2 := x2.1
    refine xs_f 44 r_43_43 rfl ?_
    refine xs_f 45 r_43_44 rfl ?_
    refine xs_get 48 r_43_45 rfl rfl o2 (by rfl) ?_
    refine xs_ext 51 r_43_48 rfl rfl rfl rfl ?_
    refine xs_f 52 (lv2 := [(2, _), (0, _), (1, _), (3, _)]) r_43_51 rfl ?_
    refine xs_f 55 (lv2 := [(3, _), (2, _), (0, _), (1, _)]) r_43_52 rfl ?_
    refine xs_f 9 r_43_55 rfl ?_
    exact xP_lv [(0, .ref t), (1, .int (nI s)), (2, .int (nI (max far (rd1 Bu n s 4 nu).2.1))), (3, .int (nI 5))] rfl ⟨rfl, rfl, (congrArg (fun z => some (Value.int z)) (max_E (by omega) (by omega))), rfl, trivial⟩ (el_43_5 (h := (f2, h.2)) x2 h32 hs (Nat.max_le.mpr ⟨hf, q2⟩) (fun f3 x3 q3 y3 => k f3 x3 q3 (y12.tr y3)))
  · have hb2 : (rd1 Bu n s 4 nu).1 = true := by
      cases hz : (rd1 Bu n s 4 nu).1
      · exact absurd ((bI_0 _).mpr hz) hb
      · rfl
    have e9 : (rdA Bu n s 2 4 far c nu) = (some 4, (rd1 Bu n s 4 nu).2) := by
      show (bif (rd1 Bu n s 4 nu).1 then _ else _) = _
      rw [hb2, cond_true]
    rw [e9] at k
    refine xs_gst 40 r_43_37 rfl ?_
    refine xs_f 41 r_43_40 rfl ?_
    refine xs_ald 42 4 r_43_41 (fun _ _ => rfl) rfl rfl rfl (j := 4) rfl (xarr_r rfl rfl) rfl (by decide) (by decide) rfl ?_
    refine xs_ret r_43_42 rfl ?_
    exact k f2 x2 q2 y12

theorem el_43_3 {S : XSc} {d : Nat} {h : XH} {Q : XO → XH → Prop} {t n p c : Nat} {Bu nu : Nat → Int32} (hT : TxP h.1 t n p c Bu nu) (h32 : 32 ≤ t) {s far : Nat} (hs : s ≤ n) (hf : far ≤ n) (k : ∀ f, TxP f t n (rdA Bu n s 3 3 far c nu).2.1 (rdA Bu n s 3 3 far c nu).2.2.1 Bu (rdA Bu n s 3 3 far c nu).2.2.2 → (rdA Bu n s 3 3 far c nu).2.1 ≤ n → Fr h.1 f t (t + 3) → Q (.inl (some (cmdV (rdA Bu n s 3 3 far c nu).1))) (f, h.2)) : xP S (d + 5) 43 9 [(0, .ref t), (1, .int (nI s)), (2, .int (nI far)), (3, .int (nI 3))] [] h Q := by
  obtain ⟨t1, t2, t3, t4, t5, t6⟩ := id hT
  refine xs_f 10 r_43_9 rfl ?_
  refine xs_gst 13 r_43_10 rfl ?_
  refine xs_len 14 r_43_13 rfl (xarr_r rfl rfl) ?_
  refine xs_f 17 r_43_14 rfl ?_
  refine xs_f 18 r_43_17 rfl ?_
  refine xs_f 19 r_43_18 rfl ?_
  refine xs_putC 22 r_43_19 rfl (by first | assumption | exact xup_s | exact t1 | (refine (xup_n (by omega)).trans ?_; first | assumption | exact xup_s | exact t1) | (refine (xup_n (by omega)).trans ((xup_n (by omega)).trans ?_); first | assumption | exact xup_s | exact t1) | (refine (xup_n (by omega)).trans ((xup_n (by omega)).trans ((xup_n (by omega)).trans ?_)); first | assumption | exact xup_s | exact t1)) (by rfl) (by rfl) (fun f1 x1 y1 => ?_)
  have hT1 : TxP f1 t n s c Bu nu := ⟨x1, t2.fr (y1 _ (by omega)), t3.fr (y1 _ (by omega)), t4, by omega, t6⟩
  have o1 := hT1.1
  refine xs_f 23 r_43_22 rfl ?_
  refine xs_gst 26 r_43_23 rfl ?_
  refine xs_f 27 r_43_26 rfl ?_
  refine xs_ald 28 4 r_43_27 (fun _ _ => rfl) rfl rfl rfl (j := 3) rfl (xarr_r rfl rfl) rfl (by decide) (by decide) rfl ?_
  refine xs_ext 31 r_43_28 rfl rfl rfl rfl ?_
  refine xs_call (lv2 := [(0, _), (1, _)]) r_43_31 rfl rfl (by decide) (xcan_0 rfl rfl o1 (by rfl)) rfl (e_45_3 (h := (f1, h.2)) hT1 h32 hs (fun f2 x2 q2 y2 => ?_))
  refine xK_v rfl ?_
  have x2 : TxP f2 t n (rd1 Bu n s 3 nu).2.1 (rd1 Bu n s 3 nu).2.2.1 Bu (rd1 Bu n s 3 nu).2.2.2 := x2
  have q2 : (rd1 Bu n s 3 nu).2.1 ≤ n := q2
  have y12 := (y1.wd (a := t) (b := t + 3) (by omega) (by omega)).tr y2
  refine xs_if 43 37 r_43_34 rfl (fun hb => ?_) (fun hb => ?_)
  · have hb2 : (rd1 Bu n s 3 nu).1 = false := (bI_0 _).mp hb
    have e9 : (rdA Bu n s 3 3 far c nu) = (rdA Bu n s 2 4 (max far (rd1 Bu n s 3 nu).2.1) (rd1 Bu n s 3 nu).2.2.1 (rd1 Bu n s 3 nu).2.2.2) := by
      show (bif (rd1 Bu n s 3 nu).1 then _ else _) = _
      rw [hb2, cond_false]
    rw [e9] at k
    have o2 := x2.1
    refine xs_f 44 r_43_43 rfl ?_
    refine xs_f 45 r_43_44 rfl ?_
    refine xs_get 48 r_43_45 rfl rfl o2 (by rfl) ?_
    refine xs_ext 51 r_43_48 rfl rfl rfl rfl ?_
    refine xs_f 52 (lv2 := [(2, _), (0, _), (1, _), (3, _)]) r_43_51 rfl ?_
    refine xs_f 55 (lv2 := [(3, _), (2, _), (0, _), (1, _)]) r_43_52 rfl ?_
    refine xs_f 9 r_43_55 rfl ?_
    exact xP_lv [(0, .ref t), (1, .int (nI s)), (2, .int (nI (max far (rd1 Bu n s 3 nu).2.1))), (3, .int (nI 4))] rfl ⟨rfl, rfl, (congrArg (fun z => some (Value.int z)) (max_E (by omega) (by omega))), rfl, trivial⟩ (el_43_4 (h := (f2, h.2)) x2 h32 hs (Nat.max_le.mpr ⟨hf, q2⟩) (fun f3 x3 q3 y3 => k f3 x3 q3 (y12.tr y3)))
  · have hb2 : (rd1 Bu n s 3 nu).1 = true := by
      cases hz : (rd1 Bu n s 3 nu).1
      · exact absurd ((bI_0 _).mpr hz) hb
      · rfl
    have e9 : (rdA Bu n s 3 3 far c nu) = (some 3, (rd1 Bu n s 3 nu).2) := by
      show (bif (rd1 Bu n s 3 nu).1 then _ else _) = _
      rw [hb2, cond_true]
    rw [e9] at k
    refine xs_gst 40 r_43_37 rfl ?_
    refine xs_f 41 r_43_40 rfl ?_
    refine xs_ald 42 4 r_43_41 (fun _ _ => rfl) rfl rfl rfl (j := 3) rfl (xarr_r rfl rfl) rfl (by decide) (by decide) rfl ?_
    refine xs_ret r_43_42 rfl ?_
    exact k f2 x2 q2 y12

theorem el_43_2 {S : XSc} {d : Nat} {h : XH} {Q : XO → XH → Prop} {t n p c : Nat} {Bu nu : Nat → Int32} (hT : TxP h.1 t n p c Bu nu) (h32 : 32 ≤ t) {s far : Nat} (hs : s ≤ n) (hf : far ≤ n) (k : ∀ f, TxP f t n (rdA Bu n s 4 2 far c nu).2.1 (rdA Bu n s 4 2 far c nu).2.2.1 Bu (rdA Bu n s 4 2 far c nu).2.2.2 → (rdA Bu n s 4 2 far c nu).2.1 ≤ n → Fr h.1 f t (t + 3) → Q (.inl (some (cmdV (rdA Bu n s 4 2 far c nu).1))) (f, h.2)) : xP S (d + 5) 43 9 [(0, .ref t), (1, .int (nI s)), (2, .int (nI far)), (3, .int (nI 2))] [] h Q := by
  obtain ⟨t1, t2, t3, t4, t5, t6⟩ := id hT
  refine xs_f 10 r_43_9 rfl ?_
  refine xs_gst 13 r_43_10 rfl ?_
  refine xs_len 14 r_43_13 rfl (xarr_r rfl rfl) ?_
  refine xs_f 17 r_43_14 rfl ?_
  refine xs_f 18 r_43_17 rfl ?_
  refine xs_f 19 r_43_18 rfl ?_
  refine xs_putC 22 r_43_19 rfl (by first | assumption | exact xup_s | exact t1 | (refine (xup_n (by omega)).trans ?_; first | assumption | exact xup_s | exact t1) | (refine (xup_n (by omega)).trans ((xup_n (by omega)).trans ?_); first | assumption | exact xup_s | exact t1) | (refine (xup_n (by omega)).trans ((xup_n (by omega)).trans ((xup_n (by omega)).trans ?_)); first | assumption | exact xup_s | exact t1)) (by rfl) (by rfl) (fun f1 x1 y1 => ?_)
  have hT1 : TxP f1 t n s c Bu nu := ⟨x1, t2.fr (y1 _ (by omega)), t3.fr (y1 _ (by omega)), t4, by omega, t6⟩
  have o1 := hT1.1
  refine xs_f 23 r_43_22 rfl ?_
  refine xs_gst 26 r_43_23 rfl ?_
  refine xs_f 27 r_43_26 rfl ?_
  refine xs_ald 28 4 r_43_27 (fun _ _ => rfl) rfl rfl rfl (j := 2) rfl (xarr_r rfl rfl) rfl (by decide) (by decide) rfl ?_
  refine xs_ext 31 r_43_28 rfl rfl rfl rfl ?_
  refine xs_call (lv2 := [(0, _), (1, _)]) r_43_31 rfl rfl (by decide) (xcan_0 rfl rfl o1 (by rfl)) rfl (e_45_2 (h := (f1, h.2)) hT1 h32 hs (fun f2 x2 q2 y2 => ?_))
  refine xK_v rfl ?_
  have x2 : TxP f2 t n (rd1 Bu n s 2 nu).2.1 (rd1 Bu n s 2 nu).2.2.1 Bu (rd1 Bu n s 2 nu).2.2.2 := x2
  have q2 : (rd1 Bu n s 2 nu).2.1 ≤ n := q2
  have y12 := (y1.wd (a := t) (b := t + 3) (by omega) (by omega)).tr y2
  refine xs_if 43 37 r_43_34 rfl (fun hb => ?_) (fun hb => ?_)
  · have hb2 : (rd1 Bu n s 2 nu).1 = false := (bI_0 _).mp hb
    have e9 : (rdA Bu n s 4 2 far c nu) = (rdA Bu n s 3 3 (max far (rd1 Bu n s 2 nu).2.1) (rd1 Bu n s 2 nu).2.2.1 (rd1 Bu n s 2 nu).2.2.2) := by
      show (bif (rd1 Bu n s 2 nu).1 then _ else _) = _
      rw [hb2, cond_false]
    rw [e9] at k
    have o2 := x2.1
    refine xs_f 44 r_43_43 rfl ?_
    refine xs_f 45 r_43_44 rfl ?_
    refine xs_get 48 r_43_45 rfl rfl o2 (by rfl) ?_
    refine xs_ext 51 r_43_48 rfl rfl rfl rfl ?_
    refine xs_f 52 (lv2 := [(2, _), (0, _), (1, _), (3, _)]) r_43_51 rfl ?_
    refine xs_f 55 (lv2 := [(3, _), (2, _), (0, _), (1, _)]) r_43_52 rfl ?_
    refine xs_f 9 r_43_55 rfl ?_
    exact xP_lv [(0, .ref t), (1, .int (nI s)), (2, .int (nI (max far (rd1 Bu n s 2 nu).2.1))), (3, .int (nI 3))] rfl ⟨rfl, rfl, (congrArg (fun z => some (Value.int z)) (max_E (by omega) (by omega))), rfl, trivial⟩ (el_43_3 (h := (f2, h.2)) x2 h32 hs (Nat.max_le.mpr ⟨hf, q2⟩) (fun f3 x3 q3 y3 => k f3 x3 q3 (y12.tr y3)))
  · have hb2 : (rd1 Bu n s 2 nu).1 = true := by
      cases hz : (rd1 Bu n s 2 nu).1
      · exact absurd ((bI_0 _).mpr hz) hb
      · rfl
    have e9 : (rdA Bu n s 4 2 far c nu) = (some 2, (rd1 Bu n s 2 nu).2) := by
      show (bif (rd1 Bu n s 2 nu).1 then _ else _) = _
      rw [hb2, cond_true]
    rw [e9] at k
    refine xs_gst 40 r_43_37 rfl ?_
    refine xs_f 41 r_43_40 rfl ?_
    refine xs_ald 42 4 r_43_41 (fun _ _ => rfl) rfl rfl rfl (j := 2) rfl (xarr_r rfl rfl) rfl (by decide) (by decide) rfl ?_
    refine xs_ret r_43_42 rfl ?_
    exact k f2 x2 q2 y12

theorem el_43_1 {S : XSc} {d : Nat} {h : XH} {Q : XO → XH → Prop} {t n p c : Nat} {Bu nu : Nat → Int32} (hT : TxP h.1 t n p c Bu nu) (h32 : 32 ≤ t) {s far : Nat} (hs : s ≤ n) (hf : far ≤ n) (k : ∀ f, TxP f t n (rdA Bu n s 5 1 far c nu).2.1 (rdA Bu n s 5 1 far c nu).2.2.1 Bu (rdA Bu n s 5 1 far c nu).2.2.2 → (rdA Bu n s 5 1 far c nu).2.1 ≤ n → Fr h.1 f t (t + 3) → Q (.inl (some (cmdV (rdA Bu n s 5 1 far c nu).1))) (f, h.2)) : xP S (d + 5) 43 9 [(0, .ref t), (1, .int (nI s)), (2, .int (nI far)), (3, .int (nI 1))] [] h Q := by
  obtain ⟨t1, t2, t3, t4, t5, t6⟩ := id hT
  refine xs_f 10 r_43_9 rfl ?_
  refine xs_gst 13 r_43_10 rfl ?_
  refine xs_len 14 r_43_13 rfl (xarr_r rfl rfl) ?_
  refine xs_f 17 r_43_14 rfl ?_
  refine xs_f 18 r_43_17 rfl ?_
  refine xs_f 19 r_43_18 rfl ?_
  refine xs_putC 22 r_43_19 rfl (by first | assumption | exact xup_s | exact t1 | (refine (xup_n (by omega)).trans ?_; first | assumption | exact xup_s | exact t1) | (refine (xup_n (by omega)).trans ((xup_n (by omega)).trans ?_); first | assumption | exact xup_s | exact t1) | (refine (xup_n (by omega)).trans ((xup_n (by omega)).trans ((xup_n (by omega)).trans ?_)); first | assumption | exact xup_s | exact t1)) (by rfl) (by rfl) (fun f1 x1 y1 => ?_)
  have hT1 : TxP f1 t n s c Bu nu := ⟨x1, t2.fr (y1 _ (by omega)), t3.fr (y1 _ (by omega)), t4, by omega, t6⟩
  have o1 := hT1.1
  refine xs_f 23 r_43_22 rfl ?_
  refine xs_gst 26 r_43_23 rfl ?_
  refine xs_f 27 r_43_26 rfl ?_
  refine xs_ald 28 4 r_43_27 (fun _ _ => rfl) rfl rfl rfl (j := 1) rfl (xarr_r rfl rfl) rfl (by decide) (by decide) rfl ?_
  refine xs_ext 31 r_43_28 rfl rfl rfl rfl ?_
  refine xs_call (lv2 := [(0, _), (1, _)]) r_43_31 rfl rfl (by decide) (xcan_0 rfl rfl o1 (by rfl)) rfl (e_45_1 (h := (f1, h.2)) hT1 h32 hs (fun f2 x2 q2 y2 => ?_))
  refine xK_v rfl ?_
  have x2 : TxP f2 t n (rd1 Bu n s 1 nu).2.1 (rd1 Bu n s 1 nu).2.2.1 Bu (rd1 Bu n s 1 nu).2.2.2 := x2
  have q2 : (rd1 Bu n s 1 nu).2.1 ≤ n := q2
  have y12 := (y1.wd (a := t) (b := t + 3) (by omega) (by omega)).tr y2
  refine xs_if 43 37 r_43_34 rfl (fun hb => ?_) (fun hb => ?_)
  · have hb2 : (rd1 Bu n s 1 nu).1 = false := (bI_0 _).mp hb
    have e9 : (rdA Bu n s 5 1 far c nu) = (rdA Bu n s 4 2 (max far (rd1 Bu n s 1 nu).2.1) (rd1 Bu n s 1 nu).2.2.1 (rd1 Bu n s 1 nu).2.2.2) := by
      show (bif (rd1 Bu n s 1 nu).1 then _ else _) = _
      rw [hb2, cond_false]
    rw [e9] at k
    have o2 := x2.1
    refine xs_f 44 r_43_43 rfl ?_
    refine xs_f 45 r_43_44 rfl ?_
    refine xs_get 48 r_43_45 rfl rfl o2 (by rfl) ?_
    refine xs_ext 51 r_43_48 rfl rfl rfl rfl ?_
    refine xs_f 52 (lv2 := [(2, _), (0, _), (1, _), (3, _)]) r_43_51 rfl ?_
    refine xs_f 55 (lv2 := [(3, _), (2, _), (0, _), (1, _)]) r_43_52 rfl ?_
    refine xs_f 9 r_43_55 rfl ?_
    exact xP_lv [(0, .ref t), (1, .int (nI s)), (2, .int (nI (max far (rd1 Bu n s 1 nu).2.1))), (3, .int (nI 2))] rfl ⟨rfl, rfl, (congrArg (fun z => some (Value.int z)) (max_E (by omega) (by omega))), rfl, trivial⟩ (el_43_2 (h := (f2, h.2)) x2 h32 hs (Nat.max_le.mpr ⟨hf, q2⟩) (fun f3 x3 q3 y3 => k f3 x3 q3 (y12.tr y3)))
  · have hb2 : (rd1 Bu n s 1 nu).1 = true := by
      cases hz : (rd1 Bu n s 1 nu).1
      · exact absurd ((bI_0 _).mpr hz) hb
      · rfl
    have e9 : (rdA Bu n s 5 1 far c nu) = (some 1, (rd1 Bu n s 1 nu).2) := by
      show (bif (rd1 Bu n s 1 nu).1 then _ else _) = _
      rw [hb2, cond_true]
    rw [e9] at k
    refine xs_gst 40 r_43_37 rfl ?_
    refine xs_f 41 r_43_40 rfl ?_
    refine xs_ald 42 4 r_43_41 (fun _ _ => rfl) rfl rfl rfl (j := 1) rfl (xarr_r rfl rfl) rfl (by decide) (by decide) rfl ?_
    refine xs_ret r_43_42 rfl ?_
    exact k f2 x2 q2 y12

theorem el_43_0 {S : XSc} {d : Nat} {h : XH} {Q : XO → XH → Prop} {t n p c : Nat} {Bu nu : Nat → Int32} (hT : TxP h.1 t n p c Bu nu) (h32 : 32 ≤ t) {s far : Nat} (hs : s ≤ n) (hf : far ≤ n) (k : ∀ f, TxP f t n (rdA Bu n s 6 0 far c nu).2.1 (rdA Bu n s 6 0 far c nu).2.2.1 Bu (rdA Bu n s 6 0 far c nu).2.2.2 → (rdA Bu n s 6 0 far c nu).2.1 ≤ n → Fr h.1 f t (t + 3) → Q (.inl (some (cmdV (rdA Bu n s 6 0 far c nu).1))) (f, h.2)) : xP S (d + 5) 43 9 [(0, .ref t), (1, .int (nI s)), (2, .int (nI far)), (3, .int (nI 0))] [] h Q := by
  obtain ⟨t1, t2, t3, t4, t5, t6⟩ := id hT
  refine xs_f 10 r_43_9 rfl ?_
  refine xs_gst 13 r_43_10 rfl ?_
  refine xs_len 14 r_43_13 rfl (xarr_r rfl rfl) ?_
  refine xs_f 17 r_43_14 rfl ?_
  refine xs_f 18 r_43_17 rfl ?_
  refine xs_f 19 r_43_18 rfl ?_
  refine xs_putC 22 r_43_19 rfl (by first | assumption | exact xup_s | exact t1 | (refine (xup_n (by omega)).trans ?_; first | assumption | exact xup_s | exact t1) | (refine (xup_n (by omega)).trans ((xup_n (by omega)).trans ?_); first | assumption | exact xup_s | exact t1) | (refine (xup_n (by omega)).trans ((xup_n (by omega)).trans ((xup_n (by omega)).trans ?_)); first | assumption | exact xup_s | exact t1)) (by rfl) (by rfl) (fun f1 x1 y1 => ?_)
  have hT1 : TxP f1 t n s c Bu nu := ⟨x1, t2.fr (y1 _ (by omega)), t3.fr (y1 _ (by omega)), t4, by omega, t6⟩
  have o1 := hT1.1
  refine xs_f 23 r_43_22 rfl ?_
  refine xs_gst 26 r_43_23 rfl ?_
  refine xs_f 27 r_43_26 rfl ?_
  refine xs_ald 28 4 r_43_27 (fun _ _ => rfl) rfl rfl rfl (j := 0) rfl (xarr_r rfl rfl) rfl (by decide) (by decide) rfl ?_
  refine xs_ext 31 r_43_28 rfl rfl rfl rfl ?_
  refine xs_call (lv2 := [(0, _), (1, _)]) r_43_31 rfl rfl (by decide) (xcan_0 rfl rfl o1 (by rfl)) rfl (e_45_0 (h := (f1, h.2)) hT1 h32 hs (fun f2 x2 q2 y2 => ?_))
  refine xK_v rfl ?_
  have x2 : TxP f2 t n (rd1 Bu n s 0 nu).2.1 (rd1 Bu n s 0 nu).2.2.1 Bu (rd1 Bu n s 0 nu).2.2.2 := x2
  have q2 : (rd1 Bu n s 0 nu).2.1 ≤ n := q2
  have y12 := (y1.wd (a := t) (b := t + 3) (by omega) (by omega)).tr y2
  refine xs_if 43 37 r_43_34 rfl (fun hb => ?_) (fun hb => ?_)
  · have hb2 : (rd1 Bu n s 0 nu).1 = false := (bI_0 _).mp hb
    have e9 : (rdA Bu n s 6 0 far c nu) = (rdA Bu n s 5 1 (max far (rd1 Bu n s 0 nu).2.1) (rd1 Bu n s 0 nu).2.2.1 (rd1 Bu n s 0 nu).2.2.2) := by
      show (bif (rd1 Bu n s 0 nu).1 then _ else _) = _
      rw [hb2, cond_false]
    rw [e9] at k
    have o2 := x2.1
    refine xs_f 44 r_43_43 rfl ?_
    refine xs_f 45 r_43_44 rfl ?_
    refine xs_get 48 r_43_45 rfl rfl o2 (by rfl) ?_
    refine xs_ext 51 r_43_48 rfl rfl rfl rfl ?_
    refine xs_f 52 (lv2 := [(2, _), (0, _), (1, _), (3, _)]) r_43_51 rfl ?_
    refine xs_f 55 (lv2 := [(3, _), (2, _), (0, _), (1, _)]) r_43_52 rfl ?_
    refine xs_f 9 r_43_55 rfl ?_
    exact xP_lv [(0, .ref t), (1, .int (nI s)), (2, .int (nI (max far (rd1 Bu n s 0 nu).2.1))), (3, .int (nI 1))] rfl ⟨rfl, rfl, (congrArg (fun z => some (Value.int z)) (max_E (by omega) (by omega))), rfl, trivial⟩ (el_43_1 (h := (f2, h.2)) x2 h32 hs (Nat.max_le.mpr ⟨hf, q2⟩) (fun f3 x3 q3 y3 => k f3 x3 q3 (y12.tr y3)))
  · have hb2 : (rd1 Bu n s 0 nu).1 = true := by
      cases hz : (rd1 Bu n s 0 nu).1
      · exact absurd ((bI_0 _).mpr hz) hb
      · rfl
    have e9 : (rdA Bu n s 6 0 far c nu) = (some 0, (rd1 Bu n s 0 nu).2) := by
      show (bif (rd1 Bu n s 0 nu).1 then _ else _) = _
      rw [hb2, cond_true]
    rw [e9] at k
    refine xs_gst 40 r_43_37 rfl ?_
    refine xs_f 41 r_43_40 rfl ?_
    refine xs_ald 42 4 r_43_41 (fun _ _ => rfl) rfl rfl rfl (j := 0) rfl (xarr_r rfl rfl) rfl (by decide) (by decide) rfl ?_
    refine xs_ret r_43_42 rfl ?_
    exact k f2 x2 q2 y12

theorem e_43 {S : XSc} {d : Nat} {h : XH} {Q : XO → XH → Prop} {t n p c : Nat} {Bu nu : Nat → Int32} (hT : TxP h.1 t n p c Bu nu) (h32 : 32 ≤ t) (hp : p ≤ n) (k : ∀ f, TxP f t n (rdA Bu n p 6 0 p c nu).2.1 (rdA Bu n p 6 0 p c nu).2.2.1 Bu (rdA Bu n p 6 0 p c nu).2.2.2 → (rdA Bu n p 6 0 p c nu).2.1 ≤ n → Fr h.1 f t (t + 3) → Q (.inl (some (cmdV (rdA Bu n p 6 0 p c nu).1))) (f, h.2)) : xP S (d + 5) 43 0 [(0, .ref t)] [] h Q := by
  obtain ⟨t1, t2, t3, t4, t5, t6⟩ := id hT
  refine xs_f 1 r_43_0 rfl ?_
  refine xs_get 4 r_43_1 rfl rfl (by first | assumption | exact xup_s | exact t1 | (refine (xup_n (by omega)).trans ?_; first | assumption | exact xup_s | exact t1) | (refine (xup_n (by omega)).trans ((xup_n (by omega)).trans ?_); first | assumption | exact xup_s | exact t1) | (refine (xup_n (by omega)).trans ((xup_n (by omega)).trans ((xup_n (by omega)).trans ?_)); first | assumption | exact xup_s | exact t1)) (by rfl) ?_
  refine xs_f 5 (lv2 := [(1, _), (0, _)]) r_43_4 rfl ?_
  refine xs_f 6 r_43_5 rfl ?_
  refine xs_f 7 (lv2 := [(2, _), (1, _), (0, _)]) r_43_6 rfl ?_
  refine xs_f 8 r_43_7 rfl ?_
  refine xs_f 9 (lv2 := [(3, _), (2, _), (1, _), (0, _)]) r_43_8 rfl ?_
  exact xP_lv [(0, .ref t), (1, .int (nI p)), (2, .int (nI p)), (3, .int (nI 0))] rfl ⟨rfl, rfl, rfl, rfl, trivial⟩ (el_43_0 hT h32 hp hp k)

