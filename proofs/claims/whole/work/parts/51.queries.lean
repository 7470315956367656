/-! the reference's answers; what each call answers, as a number (0: it answers, else which exception of the law's) and a value -/
theorem mq {Q : XO → XH → Prop} {h : XH} {a : Nat} {ch sv ty ea fa ol sp wr : Int32} {R : XR} {c : Nat} {v : Int32} (k : ∀ f, f a = some (.inr (9, mO a ch sv ty ea fa ol (nI R.1) sp wr)) → Fr h.1 f a (a + 1) → Q (.inl (some (.int R.2))) (f, h.2)) (e : R = (c, v)) {f : Nat → Option XE} (o : f a = some (.inr (9, mO a ch sv ty ea fa ol (nI c) sp wr))) (y : Fr h.1 f a (a + 1)) : Q (.inl (some (.int v))) (f, h.2) := by
  subst e
  exact k f o y
theorem isPl_n {np : Nat} {p : Int32} (h : isPl np p) (hn : np ≤ 100000) : ∃ i, i < np ∧ p = nI i := by
  obtain ⟨j, h1, rfl⟩ := nI_of (x := p) (fun z => absurd h.1 (Int32.not_le.mpr z))
  exact ⟨j, (nI_ltI h1 (by omega)).mp h.2, rfl⟩
theorem isPl_c {np : Nat} {p : Int32} (h : isPl np p) (hn : np ≤ 100000) : ∃ i, i < np ∧ p = nI i ∧ p.toNatClampNeg = i := by
  obtain ⟨i, h1, rfl⟩ := isPl_n h hn
  exact ⟨i, h1, rfl, nI_clamp (by omega)⟩
theorem xsum_eq {f g : Nat → Int32} : ∀ {n : Nat}, (∀ i, i < n → f i = g i) → xsum f n = xsum g n
  | 0, _ => rfl
  | n + 1, h => by
    show xsum f n + f n = xsum g n + g n
    rw [xsum_eq (n := n) (fun i hi => h i (by omega)), h n (by omega)]
theorem gB_sum (G : Nat → Int32) (z : Nat) : xsum (gB G z) 10 = xsum (fun j => G (z + j)) 9 := by
  have h : ∀ n, xsum (gB G z) (n + 1) = xsum (fun j => G (z + j)) n := by
    intro n
    induction n with
    | zero => rfl
    | succ n ih =>
      show xsum (gB G z) (n + 1) + gB G z (n + 1) = xsum (fun j => G (z + j)) n + G (z + n)
      rw [ih]
      congr 1
  exact h 9
theorem gerr_P (G : Nat → Int32) (i : Nat) : errP (gP G i) = gerr G i 9 := xsum_eq (fun j _ => by
  show absI (10 * gB G (75 + 9 * i) (j + 1) - nI (j + 1) * gB G (30 + 9 * i) (j + 1)) = absM (10 * G (75 + (9 * i + j)) - (nI (j + 1)) * G (30 + (9 * i + j)))
  rw [absM_I, show gB G (75 + 9 * i) (j + 1) = G (75 + (9 * i + j)) from congrArg G (by omega), show gB G (30 + 9 * i) (j + 1) = G (30 + (9 * i + j)) from congrArg G (by omega)])
theorem nI_remE {x y : Int32} {a b : Nat} (h : x = nI a) (k : y = nI b) (hb : 0 < b) (ha : a < 2 ^ 31) (hb2 : b < 2 ^ 31) : x - x / y * y = nI (a % b) := by
  subst h; subst k
  have h1 : (nI a / nI b) = nI (a / b) := by
    apply Int32.toInt_inj.mp
    have hdb : a / b ≤ a := Nat.div_le_self _ _
    rw [Int32.toInt_div_of_ne_right _ _ (by intro z; have := congrArg Int32.toInt z; rw [nI_toInt hb2] at this; have h5 : (-1 : Int32).toInt = -1 := rfl; omega), nI_toInt ha, nI_toInt hb2, nI_toInt (by omega)]
    rw [Int.tdiv_eq_ediv_of_nonneg (by omega)]
    rfl
  rw [h1, nI_mulE (x := nI (a / b)) (y := nI b) rfl rfl]
  have h2 : a / b * b ≤ a := Nat.div_mul_le_self a b
  rw [nI_subE (x := nI a) (y := nI (a / b * b)) rfl rfl h2]
  congr 1
  have h3 := Nat.div_add_mod a b
  have h4 : b * (a / b) = a / b * b := Nat.mul_comm _ _
  omega
theorem nI_divE {x y : Int32} {a b : Nat} (h : x = nI a) (k : y = nI b) (hb : 0 < b) (ha : a < 2 ^ 31) (hb2 : b < 2 ^ 31) : x / y = nI (a / b) := by
  subst h; subst k
  apply Int32.toInt_inj.mp
  have hdb : a / b ≤ a := Nat.div_le_self _ _
  rw [Int32.toInt_div_of_ne_right _ _ (by intro z; have := congrArg Int32.toInt z; rw [nI_toInt hb2] at this; have h5 : (-1 : Int32).toInt = -1 := rfl; omega), nI_toInt ha, nI_toInt hb2, nI_toInt (by omega)]
  rw [Int.tdiv_eq_ediv_of_nonneg (by omega)]
  rfl
def R_pl (np : Nat) (p : Int32) (f : Nat → Int32) : XR := if isPl np p then (0, f p.toNatClampNeg) else (1, 0)
def R_q (q : Nat → XQu) (no : Nat) (n : Int32) (f : XQu → Int32) : XR := if pla q no n < no then (0, f (q (pla q no n))) else (1, 0)
def R_est (q : Nat → XQu) (no : Nat) (n r : Int32) : XR := if pla q no n < no then (if isPl (q (pla q no n)).2.2.1 r then (0, ((q (pla q no n)).2.2.2 r.toNatClampNeg).1) else (2, 0)) else (1, 0)
def R_has (np : Nat) (q : Nat → XQu) (no : Nat) (p n : Int32) : XR := if isPl np p then (if pla q no n < no then (0, bI (decide (rnk (q (pla q no n)).2.2.2 (q (pla q no n)).2.2.1 p < (q (pla q no n)).2.2.1))) else (2, 0)) else (1, 0)
def R_fld (np : Nat) (q : Nat → XQu) (no : Nat) (p n : Int32) (f : XEst → Int32) : XR := if isPl np p then (if pla q no n < no ∧ rnk (q (pla q no n)).2.2.2 (q (pla q no n)).2.2.1 p < (q (pla q no n)).2.2.1 then (0, f ((q (pla q no n)).2.2.2 (rnk (q (pla q no n)).2.2.2 (q (pla q no n)).2.2.1 p))) else (2, 0)) else (1, 0)
def R_cov (q : Nat → XQu) (no : Nat) (n v : Int32) : XR := if pla q no n < no then (if xval v then (0, nI (xcov (q (pla q no n)).2.2.2 v (q (pla q no n)).2.2.1)) else (2, 0)) else (1, 0)
/-- the least value below n that is covered most, and how often -/
def mstV (E : Nat → XEst) (many : Nat) : Nat → Nat × Nat
  | 0 => (0, xcov E (nI 0) many)
  | n + 1 => if (mstV E many n).2 < xcov E (nI (n + 1)) many then (n + 1, xcov E (nI (n + 1)) many) else mstV E many n
theorem mstV_le (E : Nat → XEst) (many : Nat) : ∀ n, (mstV E many n).1 ≤ n ∧ (mstV E many n).2 ≤ many
  | 0 => ⟨Nat.le_refl _, xcov_le _ _ _⟩
  | n + 1 => by
    have := mstV_le E many n
    have h2 := xcov_le E (nI (n + 1)) many
    unfold mstV
    split
    · exact ⟨Nat.le_refl _, h2⟩
    · exact ⟨by omega, this.2⟩
theorem mstV_s {E : Nat → XEst} {many n : Nat} : mstV E many (n + 1) = if (mstV E many n).2 < xcov E (nI (n + 1)) many then (n + 1, xcov E (nI (n + 1)) many) else mstV E many n := rfl
def R_mst (q : Nat → XQu) (no : Nat) (n : Int32) : XR := if pla q no n < no ∧ 0 < (q (pla q no n)).2.2.1 then (0, nI (mstV (q (pla q no n)).2.2.2 (q (pla q no n)).2.2.1 999).1) else (1, 0)
def numV (E : Nat → XEst) (many n : Nat) : Nat := cntB (fun v => decide (0 < xcov E (nI v) many)) n
def R_rec (sc : Nat) (tr : Nat → Int32) (b : Int32) : XR := if isPl (min sc 5) b then (0, tr b.toNatClampNeg) else (1, 0)
def R_opt (o : Option Nat) : XR := match o with
  | none => (1, 0)
  | some j => (0, nI j)
def R_by (np : Nat) (pl : Nat → XPl) (r : Int32) : XR := R_opt (let i := fnd (fun i => decide (nI (cntB (prec pl i) np) = r)) np; if i < np then some i else none)
def R_bin (f : Nat → Int32) (c : Int32) : XR := if xconf c then (0, f c.toNatClampNeg) else (1, 0)
def gT (G : Nat → Int32) (sc j : Nat) : Int32 := G (5 + (sc - 1 - j) % 5)
theorem m_179 {S : XSc} {d : Nat} {h : XH} {Q : XO → XH → Prop} {a : Nat} {G : Nat → Int32} {np no : Nat} {mn : Nat → Nat} {ch sv ty ea fa ol th sp wr : Int32} (o0 : h.1 a = some (.inr (9, mO a ch sv ty ea fa ol th sp wr))) (g0 : IA h.1 0 (a + 1) 288 G) (hG : WG G np no mn) (h32 : 32 ≤ a)  (k : ∀ f, f a = some (.inr (9, mO a ch sv ty ea fa ol (nI (((0, nI np) : XR)).1) sp wr)) → Fr h.1 f a (a + 1) → Q (.inl (some (.int (((0, nI np) : XR)).2))) (f, h.2)) : xP S (d + 1) 179 0 [(0, .ref a)] [] h Q := by
  refine xs_f 1 r_179_0 rfl ?_
  refine xs_f 2 r_179_1 rfl ?_
  refine xs_get 5 r_179_2 rfl rfl (by first | assumption | exact o0) (by rfl) ?_
  refine xs_f 6 r_179_5 rfl ?_
  refine xs_aldI 7 r_179_6 (fun _ _ => rfl) rfl rfl rfl (j := 0) (nI_k 0) g0 (by omega) ?_
  first | rw [hG.1.1] | skip
  refine xs_call (lv2 := [(0, _), (1, _)]) r_179_7 rfl rfl (by decide) (xcan_0 rfl rfl (by first | assumption | exact o0) (by rfl)) rfl ?_
  refine xs_f 1 r_152_0 rfl ?_
  refine xs_f 2 r_152_1 rfl ?_
  refine xs_putC 5 r_152_2 rfl o0 (by rfl) (by rfl) (fun f1 o1 y1 => ?_)
  have g2 := g0.fr (y1 _ (by omega))
  have Y3 := (Fr.rf : Fr h.1 h.1 a (a + 1)).tr (y1.wd (by omega) (by omega))
  refine xs_f 6 r_152_5 rfl ?_
  refine xs_ret r_152_6 rfl ?_
  refine xK_v rfl ?_
  refine xs_ret r_179_10 rfl ?_
  exact k _ o1 Y3

theorem m_182 {S : XSc} {d : Nat} {h : XH} {Q : XO → XH → Prop} {a : Nat} {G : Nat → Int32} {np no : Nat} {mn : Nat → Nat} {ch sv ty ea fa ol th sp wr : Int32} (o0 : h.1 a = some (.inr (9, mO a ch sv ty ea fa ol th sp wr))) (g0 : IA h.1 0 (a + 1) 288 G) (hG : WG G np no mn) (h32 : 32 ≤ a)  (k : ∀ f, f a = some (.inr (9, mO a ch sv ty ea fa ol (nI (((0, G 3) : XR)).1) sp wr)) → Fr h.1 f a (a + 1) → Q (.inl (some (.int (((0, G 3) : XR)).2))) (f, h.2)) : xP S (d + 1) 182 0 [(0, .ref a)] [] h Q := by
  refine xs_f 1 r_182_0 rfl ?_
  refine xs_f 2 r_182_1 rfl ?_
  refine xs_get 5 r_182_2 rfl rfl (by first | assumption | exact o0) (by rfl) ?_
  refine xs_f 6 r_182_5 rfl ?_
  refine xs_aldI 7 r_182_6 (fun _ _ => rfl) rfl rfl rfl (j := 3) (nI_k 3) g0 (by omega) ?_
  refine xs_call (lv2 := [(0, _), (1, _)]) r_182_7 rfl rfl (by decide) (xcan_0 rfl rfl (by first | assumption | exact o0) (by rfl)) rfl ?_
  refine xs_f 1 r_152_0 rfl ?_
  refine xs_f 2 r_152_1 rfl ?_
  refine xs_putC 5 r_152_2 rfl o0 (by rfl) (by rfl) (fun f1 o1 y1 => ?_)
  have g2 := g0.fr (y1 _ (by omega))
  have Y3 := (Fr.rf : Fr h.1 h.1 a (a + 1)).tr (y1.wd (by omega) (by omega))
  refine xs_f 6 r_152_5 rfl ?_
  refine xs_ret r_152_6 rfl ?_
  refine xK_v rfl ?_
  refine xs_ret r_182_10 rfl ?_
  exact k _ o1 Y3

theorem m_184 {S : XSc} {d : Nat} {h : XH} {Q : XO → XH → Prop} {a : Nat} {G : Nat → Int32} {np no : Nat} {mn : Nat → Nat} {ch sv ty ea fa ol th sp wr : Int32} (o0 : h.1 a = some (.inr (9, mO a ch sv ty ea fa ol th sp wr))) (g0 : IA h.1 0 (a + 1) 288 G) (hG : WG G np no mn) (h32 : 32 ≤ a)  (k : ∀ f, f a = some (.inr (9, mO a ch sv ty ea fa ol (nI (((0, nI no) : XR)).1) sp wr)) → Fr h.1 f a (a + 1) → Q (.inl (some (.int (((0, nI no) : XR)).2))) (f, h.2)) : xP S (d + 1) 184 0 [(0, .ref a)] [] h Q := by
  refine xs_f 1 r_184_0 rfl ?_
  refine xs_f 2 r_184_1 rfl ?_
  refine xs_get 5 r_184_2 rfl rfl (by first | assumption | exact o0) (by rfl) ?_
  refine xs_f 6 r_184_5 rfl ?_
  refine xs_aldI 7 r_184_6 (fun _ _ => rfl) rfl rfl rfl (j := 1) (nI_k 1) g0 (by omega) ?_
  first | rw [hG.2.1.1] | skip
  refine xs_call (lv2 := [(0, _), (1, _)]) r_184_7 rfl rfl (by decide) (xcan_0 rfl rfl (by first | assumption | exact o0) (by rfl)) rfl ?_
  refine xs_f 1 r_152_0 rfl ?_
  refine xs_f 2 r_152_1 rfl ?_
  refine xs_putC 5 r_152_2 rfl o0 (by rfl) (by rfl) (fun f1 o1 y1 => ?_)
  have g2 := g0.fr (y1 _ (by omega))
  have Y3 := (Fr.rf : Fr h.1 h.1 a (a + 1)).tr (y1.wd (by omega) (by omega))
  refine xs_f 6 r_152_5 rfl ?_
  refine xs_ret r_152_6 rfl ?_
  refine xK_v rfl ?_
  refine xs_ret r_184_10 rfl ?_
  exact k _ o1 Y3

theorem m_203 {S : XSc} {d : Nat} {h : XH} {Q : XO → XH → Prop} {a : Nat} {G : Nat → Int32} {np no : Nat} {mn : Nat → Nat} {ch sv ty ea fa ol th sp wr : Int32} (o0 : h.1 a = some (.inr (9, mO a ch sv ty ea fa ol th sp wr))) (g0 : IA h.1 0 (a + 1) 288 G) (hG : WG G np no mn) (h32 : 32 ≤ a) {sc : Nat} (hsc : G 4 = nI sc) (k : ∀ f, f a = some (.inr (9, mO a ch sv ty ea fa ol (nI ((0, nI sc) : XR).1) sp wr)) → Fr h.1 f a (a + 1) → Q (.inl (some (.int ((0, nI sc) : XR).2))) (f, h.2)) : xP S (d + 1) 203 0 [(0, .ref a)] [] h Q := by
  refine xs_f 1 r_203_0 rfl ?_
  refine xs_f 2 r_203_1 rfl ?_
  refine xs_get 5 r_203_2 rfl rfl (by first | assumption | exact o0) (by rfl) ?_
  refine xs_f 6 r_203_5 rfl ?_
  refine xs_aldI 7 r_203_6 (fun _ _ => rfl) rfl rfl rfl (j := 4) (nI_k 4) g0 (by omega) ?_
  rw [hsc]
  refine xs_call (lv2 := [(0, _), (1, _)]) r_203_7 rfl rfl (by decide) (xcan_0 rfl rfl (by first | assumption | exact o0) (by rfl)) rfl ?_
  refine xs_f 1 r_152_0 rfl ?_
  refine xs_f 2 r_152_1 rfl ?_
  refine xs_putC 5 r_152_2 rfl o0 (by rfl) (by rfl) (fun f1 o1 y1 => ?_)
  have g2 := g0.fr (y1 _ (by omega))
  have Y3 := (Fr.rf : Fr h.1 h.1 a (a + 1)).tr (y1.wd (by omega) (by omega))
  refine xs_f 6 r_152_5 rfl ?_
  refine xs_ret r_152_6 rfl ?_
  refine xK_v rfl ?_
  refine xs_ret r_203_10 rfl ?_
  exact k _ o1 Y3

theorem m_180 {S : XSc} {d : Nat} {h : XH} {Q : XO → XH → Prop} {a : Nat} {G : Nat → Int32} {np no : Nat} {mn : Nat → Nat} {ch sv ty ea fa ol th sp wr : Int32} (o0 : h.1 a = some (.inr (9, mO a ch sv ty ea fa ol th sp wr))) (g0 : IA h.1 0 (a + 1) 288 G) (hG : WG G np no mn) (h32 : 32 ≤ a) {p : Int32} (k : ∀ f, f a = some (.inr (9, mO a ch sv ty ea fa ol (nI (R_pl np p (fun i => (gP G i).1)).1) sp wr)) → Fr h.1 f a (a + 1) → Q (.inl (some (.int (R_pl np p (fun i => (gP G i).1)).2))) (f, h.2)) : xP S (d + 2) 180 0 [(0, .ref a), (1, .int p)] [] h Q := by
  refine xs_f 1 r_180_0 rfl ?_
  refine xs_f 2 r_180_1 rfl ?_
  refine xs_call (lv2 := [(0, _), (1, _)]) r_180_2 rfl rfl (by decide) (xcan_0 rfl rfl (by first | assumption | exact o0) (by rfl)) rfl (m_157 o0 g0 hG h32 (fun hp => ?_) (fun hp => ?_))
  · obtain ⟨i, hi, hpi, hcl⟩ := isPl_c hp (by have := hG.1.2; omega)
    have np5 := hG.1.2
    refine xK_v rfl ?_
    refine xs_f 8 r_180_5 rfl ?_
    refine xs_f 9 r_180_8 rfl ?_
    refine xs_f 10 r_180_9 rfl ?_
    refine xs_get 13 r_180_10 rfl rfl (by first | assumption | exact o0) (by rfl) ?_
    refine xs_f 15 r_180_13 rfl ?_
    refine xs_f 16 r_180_15 rfl ?_
    refine xs_f 17 r_180_16 rfl ?_
    refine xs_aldI 18 r_180_17 (fun _ _ => rfl) rfl rfl rfl (j := (10 + i)) (nI_addE (nI_k 10) hpi) g0 (by omega) ?_
    refine xs_call (lv2 := [(0, _), (1, _)]) r_180_18 rfl rfl (by decide) (xcan_0 rfl rfl (by first | assumption | exact o0) (by rfl)) rfl ?_
    refine xs_f 1 r_152_0 rfl ?_
    refine xs_f 2 r_152_1 rfl ?_
    refine xs_putC 5 r_152_2 rfl o0 (by rfl) (by rfl) (fun f2 o2 y2 => ?_)
    have g3 := g0.fr (y2 _ (by omega))
    have Y4 := (Fr.rf : Fr h.1 h.1 a (a + 1)).tr (y2.wd (by omega) (by omega))
    refine xs_f 6 r_152_5 rfl ?_
    refine xs_ret r_152_6 rfl ?_
    refine xK_v rfl ?_
    refine xs_f 29 r_180_21 rfl ?_
    refine xs_ret r_180_29 rfl ?_
    first
      | exact mq k ((if_pos hp).trans (by rw [hcl]; rfl)) o2 Y4
      | exact mq k (if_neg hp) o2 Y4
  · refine xK_v rfl ?_
    refine xs_f 24 r_180_5 rfl ?_
    refine xs_f 25 r_180_24 rfl ?_
    refine xs_f 26 r_180_25 rfl ?_
    refine xs_call (lv2 := [(0, _), (1, _)]) r_180_26 rfl rfl (by decide) (xcan_0 rfl rfl (by first | assumption | exact o0) (by rfl)) rfl ?_
    refine xs_f 1 r_153_0 rfl ?_
    refine xs_f 2 r_153_1 rfl ?_
    refine xs_putC 5 r_153_2 rfl o0 (by rfl) (by rfl) (fun f5 o5 y5 => ?_)
    have g6 := g0.fr (y5 _ (by omega))
    have Y7 := (Fr.rf : Fr h.1 h.1 a (a + 1)).tr (y5.wd (by omega) (by omega))
    refine xs_f 6 r_153_5 rfl ?_
    refine xs_ret r_153_6 rfl ?_
    refine xK_v rfl ?_
    refine xs_ret r_180_29 rfl ?_
    first
      | exact mq k ((if_pos hp).trans (by rw [hcl]; rfl)) o5 Y7
      | exact mq k (if_neg hp) o5 Y7

theorem m_208 {S : XSc} {d : Nat} {h : XH} {Q : XO → XH → Prop} {a : Nat} {G : Nat → Int32} {np no : Nat} {mn : Nat → Nat} {ch sv ty ea fa ol th sp wr : Int32} (o0 : h.1 a = some (.inr (9, mO a ch sv ty ea fa ol th sp wr))) (g0 : IA h.1 0 (a + 1) 288 G) (hG : WG G np no mn) (h32 : 32 ≤ a) {p : Int32} (k : ∀ f, f a = some (.inr (9, mO a ch sv ty ea fa ol (nI (R_pl np p (fun i => (gP G i).2.1)).1) sp wr)) → Fr h.1 f a (a + 1) → Q (.inl (some (.int (R_pl np p (fun i => (gP G i).2.1)).2))) (f, h.2)) : xP S (d + 2) 208 0 [(0, .ref a), (1, .int p)] [] h Q := by
  refine xs_f 1 r_208_0 rfl ?_
  refine xs_f 2 r_208_1 rfl ?_
  refine xs_call (lv2 := [(0, _), (1, _)]) r_208_2 rfl rfl (by decide) (xcan_0 rfl rfl (by first | assumption | exact o0) (by rfl)) rfl (m_157 o0 g0 hG h32 (fun hp => ?_) (fun hp => ?_))
  · obtain ⟨i, hi, hpi, hcl⟩ := isPl_c hp (by have := hG.1.2; omega)
    have np5 := hG.1.2
    refine xK_v rfl ?_
    refine xs_f 8 r_208_5 rfl ?_
    refine xs_f 9 r_208_8 rfl ?_
    refine xs_f 10 r_208_9 rfl ?_
    refine xs_get 13 r_208_10 rfl rfl (by first | assumption | exact o0) (by rfl) ?_
    refine xs_f 15 r_208_13 rfl ?_
    refine xs_f 16 r_208_15 rfl ?_
    refine xs_f 17 r_208_16 rfl ?_
    refine xs_aldI 18 r_208_17 (fun _ _ => rfl) rfl rfl rfl (j := (20 + i)) (nI_addE (nI_k 20) hpi) g0 (by omega) ?_
    refine xs_call (lv2 := [(0, _), (1, _)]) r_208_18 rfl rfl (by decide) (xcan_0 rfl rfl (by first | assumption | exact o0) (by rfl)) rfl ?_
    refine xs_f 1 r_152_0 rfl ?_
    refine xs_f 2 r_152_1 rfl ?_
    refine xs_putC 5 r_152_2 rfl o0 (by rfl) (by rfl) (fun f2 o2 y2 => ?_)
    have g3 := g0.fr (y2 _ (by omega))
    have Y4 := (Fr.rf : Fr h.1 h.1 a (a + 1)).tr (y2.wd (by omega) (by omega))
    refine xs_f 6 r_152_5 rfl ?_
    refine xs_ret r_152_6 rfl ?_
    refine xK_v rfl ?_
    refine xs_f 29 r_208_21 rfl ?_
    refine xs_ret r_208_29 rfl ?_
    first
      | exact mq k ((if_pos hp).trans (by rw [hcl]; rfl)) o2 Y4
      | exact mq k (if_neg hp) o2 Y4
  · refine xK_v rfl ?_
    refine xs_f 24 r_208_5 rfl ?_
    refine xs_f 25 r_208_24 rfl ?_
    refine xs_f 26 r_208_25 rfl ?_
    refine xs_call (lv2 := [(0, _), (1, _)]) r_208_26 rfl rfl (by decide) (xcan_0 rfl rfl (by first | assumption | exact o0) (by rfl)) rfl ?_
    refine xs_f 1 r_153_0 rfl ?_
    refine xs_f 2 r_153_1 rfl ?_
    refine xs_putC 5 r_153_2 rfl o0 (by rfl) (by rfl) (fun f5 o5 y5 => ?_)
    have g6 := g0.fr (y5 _ (by omega))
    have Y7 := (Fr.rf : Fr h.1 h.1 a (a + 1)).tr (y5.wd (by omega) (by omega))
    refine xs_f 6 r_153_5 rfl ?_
    refine xs_ret r_153_6 rfl ?_
    refine xK_v rfl ?_
    refine xs_ret r_208_29 rfl ?_
    first
      | exact mq k ((if_pos hp).trans (by rw [hcl]; rfl)) o5 Y7
      | exact mq k (if_neg hp) o5 Y7

theorem m_206 {S : XSc} {d : Nat} {h : XH} {Q : XO → XH → Prop} {a : Nat} {G : Nat → Int32} {np no : Nat} {mn : Nat → Nat} {ch sv ty ea fa ol th sp wr : Int32} (o0 : h.1 a = some (.inr (9, mO a ch sv ty ea fa ol th sp wr))) (g0 : IA h.1 0 (a + 1) 288 G) (hG : WG G np no mn) (h32 : 32 ≤ a) {p : Int32} (k : ∀ f, f a = some (.inr (9, mO a ch sv ty ea fa ol (nI (R_pl np p (fun i => szP (gP G i))).1) sp wr)) → Fr h.1 f a (a + 1) → Q (.inl (some (.int (R_pl np p (fun i => szP (gP G i))).2))) (f, h.2)) : xP S (d + 2) 206 0 [(0, .ref a), (1, .int p)] [] h Q := by
  refine xs_f 1 r_206_0 rfl ?_
  refine xs_f 2 r_206_1 rfl ?_
  refine xs_call (lv2 := [(0, _), (1, _)]) r_206_2 rfl rfl (by decide) (xcan_0 rfl rfl (by first | assumption | exact o0) (by rfl)) rfl (m_157 o0 g0 hG h32 (fun hp => ?_) (fun hp => ?_))
  · obtain ⟨i, hi, hpi, hcl⟩ := isPl_c hp (by have := hG.1.2; omega)
    have np5 := hG.1.2
    refine xK_v rfl ?_
    refine xs_f 8 r_206_5 rfl ?_
    refine xs_f 9 r_206_8 rfl ?_
    refine xs_f 10 r_206_9 rfl ?_
    refine xs_f 12 r_206_10 rfl ?_
    refine xs_f 13 r_206_12 rfl ?_
    subst hpi
    refine xs_call (lv2 := [(0, _), (1, _), (2, _)]) r_206_13 rfl rfl (by decide) (xcan_0 rfl rfl (by first | assumption | exact o0) (by rfl)) rfl (m_205 o0 g0 hG h32 (z := 30) (i := i) (by omega) ?_)
    refine xK_v rfl ?_
    refine xs_call (lv2 := [(0, _), (1, _)]) r_206_16 rfl rfl (by decide) (xcan_0 rfl rfl (by first | assumption | exact o0) (by rfl)) rfl ?_
    refine xs_f 1 r_152_0 rfl ?_
    refine xs_f 2 r_152_1 rfl ?_
    refine xs_putC 5 r_152_2 rfl o0 (by rfl) (by rfl) (fun f2 o2 y2 => ?_)
    have g3 := g0.fr (y2 _ (by omega))
    have Y4 := (Fr.rf : Fr h.1 h.1 a (a + 1)).tr (y2.wd (by omega) (by omega))
    refine xs_f 6 r_152_5 rfl ?_
    refine xs_ret r_152_6 rfl ?_
    refine xK_v rfl ?_
    refine xs_f 27 r_206_19 rfl ?_
    refine xs_ret r_206_27 rfl ?_
    first
      | exact mq k ((if_pos hp).trans (by rw [hcl]; show (0, xsum (gB G (30 + 9 * i)) 10) = _; rw [gB_sum])) o2 Y4
      | exact mq k (if_neg hp) o2 Y4
  · refine xK_v rfl ?_
    refine xs_f 22 r_206_5 rfl ?_
    refine xs_f 23 r_206_22 rfl ?_
    refine xs_f 24 r_206_23 rfl ?_
    refine xs_call (lv2 := [(0, _), (1, _)]) r_206_24 rfl rfl (by decide) (xcan_0 rfl rfl (by first | assumption | exact o0) (by rfl)) rfl ?_
    refine xs_f 1 r_153_0 rfl ?_
    refine xs_f 2 r_153_1 rfl ?_
    refine xs_putC 5 r_153_2 rfl o0 (by rfl) (by rfl) (fun f5 o5 y5 => ?_)
    have g6 := g0.fr (y5 _ (by omega))
    have Y7 := (Fr.rf : Fr h.1 h.1 a (a + 1)).tr (y5.wd (by omega) (by omega))
    refine xs_f 6 r_153_5 rfl ?_
    refine xs_ret r_153_6 rfl ?_
    refine xK_v rfl ?_
    refine xs_ret r_206_27 rfl ?_
    first
      | exact mq k ((if_pos hp).trans (by rw [hcl]; show (0, xsum (gB G (30 + 9 * i)) 10) = _; rw [gB_sum])) o5 Y7
      | exact mq k (if_neg hp) o5 Y7

theorem m_207 {S : XSc} {d : Nat} {h : XH} {Q : XO → XH → Prop} {a : Nat} {G : Nat → Int32} {np no : Nat} {mn : Nat → Nat} {ch sv ty ea fa ol th sp wr : Int32} (o0 : h.1 a = some (.inr (9, mO a ch sv ty ea fa ol th sp wr))) (g0 : IA h.1 0 (a + 1) 288 G) (hG : WG G np no mn) (h32 : 32 ≤ a) {p : Int32} (k : ∀ f, f a = some (.inr (9, mO a ch sv ty ea fa ol (nI (R_pl np p (fun i => htP (gP G i))).1) sp wr)) → Fr h.1 f a (a + 1) → Q (.inl (some (.int (R_pl np p (fun i => htP (gP G i))).2))) (f, h.2)) : xP S (d + 2) 207 0 [(0, .ref a), (1, .int p)] [] h Q := by
  refine xs_f 1 r_207_0 rfl ?_
  refine xs_f 2 r_207_1 rfl ?_
  refine xs_call (lv2 := [(0, _), (1, _)]) r_207_2 rfl rfl (by decide) (xcan_0 rfl rfl (by first | assumption | exact o0) (by rfl)) rfl (m_157 o0 g0 hG h32 (fun hp => ?_) (fun hp => ?_))
  · obtain ⟨i, hi, hpi, hcl⟩ := isPl_c hp (by have := hG.1.2; omega)
    have np5 := hG.1.2
    refine xK_v rfl ?_
    refine xs_f 8 r_207_5 rfl ?_
    refine xs_f 9 r_207_8 rfl ?_
    refine xs_f 10 r_207_9 rfl ?_
    refine xs_f 12 r_207_10 rfl ?_
    refine xs_f 13 r_207_12 rfl ?_
    subst hpi
    refine xs_call (lv2 := [(0, _), (1, _), (2, _)]) r_207_13 rfl rfl (by decide) (xcan_0 rfl rfl (by first | assumption | exact o0) (by rfl)) rfl (m_205 o0 g0 hG h32 (z := 75) (i := i) (by omega) ?_)
    refine xK_v rfl ?_
    refine xs_call (lv2 := [(0, _), (1, _)]) r_207_16 rfl rfl (by decide) (xcan_0 rfl rfl (by first | assumption | exact o0) (by rfl)) rfl ?_
    refine xs_f 1 r_152_0 rfl ?_
    refine xs_f 2 r_152_1 rfl ?_
    refine xs_putC 5 r_152_2 rfl o0 (by rfl) (by rfl) (fun f2 o2 y2 => ?_)
    have g3 := g0.fr (y2 _ (by omega))
    have Y4 := (Fr.rf : Fr h.1 h.1 a (a + 1)).tr (y2.wd (by omega) (by omega))
    refine xs_f 6 r_152_5 rfl ?_
    refine xs_ret r_152_6 rfl ?_
    refine xK_v rfl ?_
    refine xs_f 27 r_207_19 rfl ?_
    refine xs_ret r_207_27 rfl ?_
    first
      | exact mq k ((if_pos hp).trans (by rw [hcl]; show (0, xsum (gB G (75 + 9 * i)) 10) = _; rw [gB_sum])) o2 Y4
      | exact mq k (if_neg hp) o2 Y4
  · refine xK_v rfl ?_
    refine xs_f 22 r_207_5 rfl ?_
    refine xs_f 23 r_207_22 rfl ?_
    refine xs_f 24 r_207_23 rfl ?_
    refine xs_call (lv2 := [(0, _), (1, _)]) r_207_24 rfl rfl (by decide) (xcan_0 rfl rfl (by first | assumption | exact o0) (by rfl)) rfl ?_
    refine xs_f 1 r_153_0 rfl ?_
    refine xs_f 2 r_153_1 rfl ?_
    refine xs_putC 5 r_153_2 rfl o0 (by rfl) (by rfl) (fun f5 o5 y5 => ?_)
    have g6 := g0.fr (y5 _ (by omega))
    have Y7 := (Fr.rf : Fr h.1 h.1 a (a + 1)).tr (y5.wd (by omega) (by omega))
    refine xs_f 6 r_153_5 rfl ?_
    refine xs_ret r_153_6 rfl ?_
    refine xK_v rfl ?_
    refine xs_ret r_207_27 rfl ?_
    first
      | exact mq k ((if_pos hp).trans (by rw [hcl]; show (0, xsum (gB G (75 + 9 * i)) 10) = _; rw [gB_sum])) o5 Y7
      | exact mq k (if_neg hp) o5 Y7

theorem m_211 {S : XSc} {d : Nat} {h : XH} {Q : XO → XH → Prop} {a : Nat} {G : Nat → Int32} {np no : Nat} {mn : Nat → Nat} {ch sv ty ea fa ol th sp wr : Int32} (o0 : h.1 a = some (.inr (9, mO a ch sv ty ea fa ol th sp wr))) (g0 : IA h.1 0 (a + 1) 288 G) (hG : WG G np no mn) (h32 : 32 ≤ a) {p : Int32} (k : ∀ f, f a = some (.inr (9, mO a ch sv ty ea fa ol (nI (R_pl np p (fun i => errP (gP G i))).1) sp wr)) → Fr h.1 f a (a + 1) → Q (.inl (some (.int (R_pl np p (fun i => errP (gP G i))).2))) (f, h.2)) : xP S (d + 2) 211 0 [(0, .ref a), (1, .int p)] [] h Q := by
  refine xs_f 1 r_211_0 rfl ?_
  refine xs_f 2 r_211_1 rfl ?_
  refine xs_call (lv2 := [(0, _), (1, _)]) r_211_2 rfl rfl (by decide) (xcan_0 rfl rfl (by first | assumption | exact o0) (by rfl)) rfl (m_157 o0 g0 hG h32 (fun hp => ?_) (fun hp => ?_))
  · obtain ⟨i, hi, hpi, hcl⟩ := isPl_c hp (by have := hG.1.2; omega)
    have np5 := hG.1.2
    refine xK_v rfl ?_
    refine xs_f 8 r_211_5 rfl ?_
    refine xs_f 9 r_211_8 rfl ?_
    refine xs_f 10 r_211_9 rfl ?_
    refine xs_f 11 r_211_10 rfl ?_
    subst hpi
    refine xs_call (lv2 := [(0, _), (1, _)]) r_211_11 rfl rfl (by decide) (xcan_0 rfl rfl (by first | assumption | exact o0) (by rfl)) rfl (m_210 o0 g0 hG h32 (i := i) (by omega) ?_)
    refine xK_v rfl ?_
    refine xs_call (lv2 := [(0, _), (1, _)]) r_211_14 rfl rfl (by decide) (xcan_0 rfl rfl (by first | assumption | exact o0) (by rfl)) rfl ?_
    refine xs_f 1 r_152_0 rfl ?_
    refine xs_f 2 r_152_1 rfl ?_
    refine xs_putC 5 r_152_2 rfl o0 (by rfl) (by rfl) (fun f3 o3 y3 => ?_)
    have g4 := g0.fr (y3 _ (by omega))
    have Y5 := (Fr.rf : Fr h.1 h.1 a (a + 1)).tr (y3.wd (by omega) (by omega))
    refine xs_f 6 r_152_5 rfl ?_
    refine xs_ret r_152_6 rfl ?_
    refine xK_v rfl ?_
    refine xs_f 25 r_211_17 rfl ?_
    refine xs_ret r_211_25 rfl ?_
    first
      | exact mq k ((if_pos hp).trans (by rw [hcl]; dsimp only; rw [gerr_P])) o3 Y5
      | exact mq k (if_neg hp) o3 Y5
  · refine xK_v rfl ?_
    refine xs_f 20 r_211_5 rfl ?_
    refine xs_f 21 r_211_20 rfl ?_
    refine xs_f 22 r_211_21 rfl ?_
    refine xs_call (lv2 := [(0, _), (1, _)]) r_211_22 rfl rfl (by decide) (xcan_0 rfl rfl (by first | assumption | exact o0) (by rfl)) rfl ?_
    refine xs_f 1 r_153_0 rfl ?_
    refine xs_f 2 r_153_1 rfl ?_
    refine xs_putC 5 r_153_2 rfl o0 (by rfl) (by rfl) (fun f6 o6 y6 => ?_)
    have g7 := g0.fr (y6 _ (by omega))
    have Y8 := (Fr.rf : Fr h.1 h.1 a (a + 1)).tr (y6.wd (by omega) (by omega))
    refine xs_f 6 r_153_5 rfl ?_
    refine xs_ret r_153_6 rfl ?_
    refine xK_v rfl ?_
    refine xs_ret r_211_25 rfl ?_
    first
      | exact mq k ((if_pos hp).trans (by rw [hcl]; dsimp only; rw [gerr_P])) o6 Y8
      | exact mq k (if_neg hp) o6 Y8

theorem m_181 {S : XSc} {d : Nat} {h : XH} {Q : XO → XH → Prop} {a : Nat} {G : Nat → Int32} {np no : Nat} {mn : Nat → Nat} {ch sv ty ea fa ol th sp wr : Int32} (o0 : h.1 a = some (.inr (9, mO a ch sv ty ea fa ol th sp wr))) (g0 : IA h.1 0 (a + 1) 288 G) (hG : WG G np no mn) (h32 : 32 ≤ a) {p : Int32} (k : ∀ f, f a = some (.inr (9, mO a ch sv ty ea fa ol (nI (R_pl np p (fun i => bI (gP G i).2.2.1)).1) sp wr)) → Fr h.1 f a (a + 1) → Q (.inl (some (.int (R_pl np p (fun i => bI (gP G i).2.2.1)).2))) (f, h.2)) : xP S (d + 2) 181 0 [(0, .ref a), (1, .int p)] [] h Q := by
  refine xs_f 1 r_181_0 rfl ?_
  refine xs_f 2 r_181_1 rfl ?_
  refine xs_f 3 r_181_2 rfl ?_
  refine xs_call (lv2 := [(0, _), (1, _)]) r_181_3 rfl rfl (by decide) (xcan_0 rfl rfl (by first | assumption | exact o0) (by rfl)) rfl (m_157 o0 g0 hG h32 (fun hp => ?_) (fun hp => ?_))
  · obtain ⟨i, hi, hpi, hcl⟩ := isPl_c hp (by have := hG.1.2; omega)
    have np5 := hG.1.2
    refine xK_v rfl ?_
    refine xs_f 9 r_181_6 rfl ?_
    refine xs_f 10 r_181_9 rfl ?_
    refine xs_f 14 r_181_10 rfl ?_
    refine xs_putC 17 r_181_14 rfl o0 (by rfl) (by rfl) (fun f2 o2 y2 => ?_)
    have g3 := g0.fr (y2 _ (by omega))
    have Y4 := (Fr.rf : Fr h.1 h.1 a (a + 1)).tr (y2.wd (by omega) (by omega))
    refine xs_f 18 r_181_17 rfl ?_
    refine xs_get 21 r_181_18 rfl rfl (by first | assumption | exact o2) (by rfl) ?_
    refine xs_f 24 r_181_21 rfl ?_
    refine xs_f 25 r_181_24 rfl ?_
    refine xs_get 28 r_181_25 rfl rfl (by first | assumption | exact o2) (by rfl) ?_
    refine xs_f 30 r_181_28 rfl ?_
    refine xs_f 31 r_181_30 rfl ?_
    refine xs_f 32 r_181_31 rfl ?_
    refine xs_aldI 33 r_181_32 (fun _ _ => rfl) rfl rfl rfl (j := (15 + i)) (nI_addE (nI_k 15) hpi) g3 (by omega) ?_
    refine xs_f 34 r_181_33 rfl ?_
    refine xs_if 37 41 r_181_34 rfl (fun he => ?_) (fun he => ?_)
    · refine xs_f 38 r_181_37 rfl ?_
      refine xs_f 42 r_181_38 rfl ?_
      refine xs_ret r_181_42 rfl ?_
      first
        | exact mq k ((if_pos hp).trans (by rw [hcl]; show (0, bI (decide (G (15 + i) = 1))) = _; rw [decide_eq_true he]; rfl)) o2 Y4
        | exact mq k ((if_pos hp).trans (by rw [hcl]; show (0, bI (decide (G (15 + i) = 1))) = _; rw [decide_eq_false he]; rfl)) o2 Y4
        | exact mq k (if_neg hp) o2 Y4
    · refine xs_f 42 r_181_41 rfl ?_
      refine xs_ret r_181_42 rfl ?_
      first
        | exact mq k ((if_pos hp).trans (by rw [hcl]; show (0, bI (decide (G (15 + i) = 1))) = _; rw [decide_eq_true he]; rfl)) o2 Y4
        | exact mq k ((if_pos hp).trans (by rw [hcl]; show (0, bI (decide (G (15 + i) = 1))) = _; rw [decide_eq_false he]; rfl)) o2 Y4
        | exact mq k (if_neg hp) o2 Y4
  · refine xK_v rfl ?_
    refine xs_f 13 r_181_6 rfl ?_
    refine xs_f 14 r_181_13 rfl ?_
    refine xs_putC 17 r_181_14 rfl o0 (by rfl) (by rfl) (fun f5 o5 y5 => ?_)
    have g6 := g0.fr (y5 _ (by omega))
    have Y7 := (Fr.rf : Fr h.1 h.1 a (a + 1)).tr (y5.wd (by omega) (by omega))
    refine xs_f 18 r_181_17 rfl ?_
    refine xs_get 21 r_181_18 rfl rfl (by first | assumption | exact o5) (by rfl) ?_
    refine xs_f 41 r_181_21 rfl ?_
    refine xs_f 42 r_181_41 rfl ?_
    refine xs_ret r_181_42 rfl ?_
    first
      | exact mq k ((if_pos hp).trans (by rw [hcl]; show (0, bI (decide (G (15 + i) = 1))) = _; rw [decide_eq_true he]; rfl)) o5 Y7
      | exact mq k ((if_pos hp).trans (by rw [hcl]; show (0, bI (decide (G (15 + i) = 1))) = _; rw [decide_eq_false he]; rfl)) o5 Y7
      | exact mq k (if_neg hp) o5 Y7

theorem m_185 {S : XSc} {d : Nat} {h : XH} {Q : XO → XH → Prop} {a : Nat} {G : Nat → Int32} {np no : Nat} {mn : Nat → Nat} {ch sv ty ea fa ol th sp wr : Int32} (o0 : h.1 a = some (.inr (9, mO a ch sv ty ea fa ol th sp wr))) (g0 : IA h.1 0 (a + 1) 288 G) (hG : WG G np no mn) (h32 : 32 ≤ a) {p : Int32} (k : ∀ f, f a = some (.inr (9, mO a ch sv ty ea fa ol (nI (R_pl no p (fun i => (gQ G mn i).1)).1) sp wr)) → Fr h.1 f a (a + 1) → Q (.inl (some (.int (R_pl no p (fun i => (gQ G mn i).1)).2))) (f, h.2)) : xP S (d + 2) 185 0 [(0, .ref a), (1, .int p)] [] h Q := by
  refine xs_f 1 r_185_0 rfl ?_
  refine xs_f 2 r_185_1 rfl ?_
  refine xs_f 3 r_185_2 rfl ?_
  refine xs_get 6 r_185_3 rfl rfl (by first | assumption | exact o0) (by rfl) ?_
  refine xs_f 7 r_185_6 rfl ?_
  refine xs_aldI 8 r_185_7 (fun _ _ => rfl) rfl rfl rfl (j := 1) (nI_k 1) g0 (by omega) ?_
  first | rw [hG.2.1.1] | skip
  refine xs_f 9 r_185_8 rfl ?_
  refine xs_f 10 r_185_9 rfl ?_
  refine xs_call (lv2 := [(0, _), (1, _), (2, _)]) r_185_10 rfl rfl (by decide) (xcan_1 rfl) rfl (m_150 (fun hb => ?_) (fun hb => ?_))
  · have hp : isPl no p := ⟨hb.1, (leP (by have := hG.2.1.2; omega) _).mp hb.2⟩
    obtain ⟨i, hi, hpi, hcl⟩ := isPl_c hp (by have := hG.2.1.2; omega)
    have no6 := hG.2.1.2
    refine xK_v rfl ?_
    refine xs_f 16 r_185_13 rfl ?_
    refine xs_f 17 r_185_16 rfl ?_
    refine xs_f 18 r_185_17 rfl ?_
    refine xs_get 21 r_185_18 rfl rfl (by first | assumption | exact o0) (by rfl) ?_
    refine xs_f 23 r_185_21 rfl ?_
    refine xs_f 24 r_185_23 rfl ?_
    refine xs_f 25 r_185_24 rfl ?_
    refine xs_aldI 26 r_185_25 (fun _ _ => rfl) rfl rfl rfl (j := (120 + i)) (nI_addE (nI_k 120) hpi) g0 (by omega) ?_
    refine xs_call (lv2 := [(0, _), (1, _)]) r_185_26 rfl rfl (by decide) (xcan_0 rfl rfl (by first | assumption | exact o0) (by rfl)) rfl ?_
    refine xs_f 1 r_152_0 rfl ?_
    refine xs_f 2 r_152_1 rfl ?_
    refine xs_putC 5 r_152_2 rfl o0 (by rfl) (by rfl) (fun f2 o2 y2 => ?_)
    have g3 := g0.fr (y2 _ (by omega))
    have Y4 := (Fr.rf : Fr h.1 h.1 a (a + 1)).tr (y2.wd (by omega) (by omega))
    refine xs_f 6 r_152_5 rfl ?_
    refine xs_ret r_152_6 rfl ?_
    refine xK_v rfl ?_
    refine xs_f 37 r_185_29 rfl ?_
    refine xs_ret r_185_37 rfl ?_
    first
      | exact mq k ((if_pos hp).trans (by rw [hcl]; rfl)) o2 Y4
      | exact mq k (if_neg (fun z => hb ⟨z.1, (leP (by have := hG.2.1.2; omega) _).mpr z.2⟩)) o2 Y4
  · refine xK_v rfl ?_
    refine xs_f 32 r_185_13 rfl ?_
    refine xs_f 33 r_185_32 rfl ?_
    refine xs_f 34 r_185_33 rfl ?_
    refine xs_call (lv2 := [(0, _), (1, _)]) r_185_34 rfl rfl (by decide) (xcan_0 rfl rfl (by first | assumption | exact o0) (by rfl)) rfl ?_
    refine xs_f 1 r_153_0 rfl ?_
    refine xs_f 2 r_153_1 rfl ?_
    refine xs_putC 5 r_153_2 rfl o0 (by rfl) (by rfl) (fun f5 o5 y5 => ?_)
    have g6 := g0.fr (y5 _ (by omega))
    have Y7 := (Fr.rf : Fr h.1 h.1 a (a + 1)).tr (y5.wd (by omega) (by omega))
    refine xs_f 6 r_153_5 rfl ?_
    refine xs_ret r_153_6 rfl ?_
    refine xK_v rfl ?_
    refine xs_ret r_185_37 rfl ?_
    first
      | exact mq k ((if_pos hp).trans (by rw [hcl]; rfl)) o5 Y7
      | exact mq k (if_neg (fun z => hb ⟨z.1, (leP (by have := hG.2.1.2; omega) _).mpr z.2⟩)) o5 Y7

theorem m_186 {S : XSc} {d : Nat} {h : XH} {Q : XO → XH → Prop} {a : Nat} {G : Nat → Int32} {np no : Nat} {mn : Nat → Nat} {ch sv ty ea fa ol th sp wr : Int32} (o0 : h.1 a = some (.inr (9, mO a ch sv ty ea fa ol th sp wr))) (g0 : IA h.1 0 (a + 1) 288 G) (hG : WG G np no mn) (h32 : 32 ≤ a) {n : Int32} (k : ∀ f, f a = some (.inr (9, mO a ch sv ty ea fa ol (nI (if pla (gQ G mn) no n < no then ((0, nI (pla (gQ G mn) no n)) : XR) else (1, 0)).1) sp wr)) → Fr h.1 f a (a + 1) → Q (.inl (some (.int (if pla (gQ G mn) no n < no then ((0, nI (pla (gQ G mn) no n)) : XR) else (1, 0)).2))) (f, h.2)) : xP S (d + 1) 186 0 [(0, .ref a), (1, .int n)] [] h Q := by
  refine xs_f 1 r_186_0 rfl ?_
  refine xs_f 2 r_186_1 rfl ?_
  refine xs_call (lv2 := [(0, _), (1, _)]) r_186_2 rfl rfl (by decide) (xcan_0 rfl rfl (by first | assumption | exact o0) (by rfl)) rfl (m_158 o0 g0 hG h32 (fun hq => ?_) (fun hq => ?_))
  · have no6 := hG.2.1.2
    have mn5 := (hG.2.2 (pla (gQ G mn) no n) (by omega)).2
    refine xK_v rfl ?_
    refine xs_f 6 (lv2 := [(2, _), (0, _), (1, _)]) r_186_5 rfl ?_
    refine xs_f 7 r_186_6 rfl ?_
    refine xs_f 8 r_186_7 rfl ?_
    refine xs_if 11 19 r_186_8 rfl (fun hc1 => ?_) (fun hc1 => ?_)
    · exact absurd hc1 (nI_m1 rfl (by omega))
    · refine xs_f 20 r_186_19 rfl ?_
      refine xs_f 21 r_186_20 rfl ?_
      refine xs_call (lv2 := [(0, _), (1, _)]) r_186_21 rfl rfl (by decide) (xcan_0 rfl rfl (by first | assumption | exact o0) (by rfl)) rfl ?_
      refine xs_f 1 r_152_0 rfl ?_
      refine xs_f 2 r_152_1 rfl ?_
      refine xs_putC 5 r_152_2 rfl o0 (by rfl) (by rfl) (fun f2 o2 y2 => ?_)
      have g3 := g0.fr (y2 _ (by omega))
      have Y4 := (Fr.rf : Fr h.1 h.1 a (a + 1)).tr (y2.wd (by omega) (by omega))
      refine xs_f 6 r_152_5 rfl ?_
      refine xs_ret r_152_6 rfl ?_
      refine xK_v rfl ?_
      refine xs_ret r_186_24 rfl ?_
      first
        | exact mq k (if_pos hq) o2 Y4
        | exact mq k (if_neg (by omega)) o2 Y4
  · refine xK_v rfl ?_
    refine xs_f 6 (lv2 := [(2, _), (0, _), (1, _)]) r_186_5 rfl ?_
    refine xs_f 7 r_186_6 rfl ?_
    refine xs_f 8 r_186_7 rfl ?_
    refine xs_f 11 r_186_8 rfl ?_
    refine xs_f 12 r_186_11 rfl ?_
    refine xs_f 13 r_186_12 rfl ?_
    refine xs_call (lv2 := [(0, _), (1, _)]) r_186_13 rfl rfl (by decide) (xcan_0 rfl rfl (by first | assumption | exact o0) (by rfl)) rfl ?_
    refine xs_f 1 r_153_0 rfl ?_
    refine xs_f 2 r_153_1 rfl ?_
    refine xs_putC 5 r_153_2 rfl o0 (by rfl) (by rfl) (fun f5 o5 y5 => ?_)
    have g6 := g0.fr (y5 _ (by omega))
    have Y7 := (Fr.rf : Fr h.1 h.1 a (a + 1)).tr (y5.wd (by omega) (by omega))
    refine xs_f 6 r_153_5 rfl ?_
    refine xs_ret r_153_6 rfl ?_
    refine xK_v rfl ?_
    refine xs_f 24 r_186_16 rfl ?_
    refine xs_ret r_186_24 rfl ?_
    first
      | exact mq k (if_pos hq) o5 Y7
      | exact mq k (if_neg (by omega)) o5 Y7

theorem m_187 {S : XSc} {d : Nat} {h : XH} {Q : XO → XH → Prop} {a : Nat} {G : Nat → Int32} {np no : Nat} {mn : Nat → Nat} {ch sv ty ea fa ol th sp wr : Int32} (o0 : h.1 a = some (.inr (9, mO a ch sv ty ea fa ol th sp wr))) (g0 : IA h.1 0 (a + 1) 288 G) (hG : WG G np no mn) (h32 : 32 ≤ a) {n : Int32} (k : ∀ f, f a = some (.inr (9, mO a ch sv ty ea fa ol (nI (R_q (gQ G mn) no n (fun q => q.2.1)).1) sp wr)) → Fr h.1 f a (a + 1) → Q (.inl (some (.int (R_q (gQ G mn) no n (fun q => q.2.1)).2))) (f, h.2)) : xP S (d + 1) 187 0 [(0, .ref a), (1, .int n)] [] h Q := by
  refine xs_f 1 r_187_0 rfl ?_
  refine xs_f 2 r_187_1 rfl ?_
  refine xs_call (lv2 := [(0, _), (1, _)]) r_187_2 rfl rfl (by decide) (xcan_0 rfl rfl (by first | assumption | exact o0) (by rfl)) rfl (m_158 o0 g0 hG h32 (fun hq => ?_) (fun hq => ?_))
  · have no6 := hG.2.1.2
    have mn5 := (hG.2.2 (pla (gQ G mn) no n) (by omega)).2
    refine xK_v rfl ?_
    refine xs_f 6 (lv2 := [(2, _), (0, _), (1, _)]) r_187_5 rfl ?_
    refine xs_f 7 r_187_6 rfl ?_
    refine xs_f 8 r_187_7 rfl ?_
    refine xs_if 11 19 r_187_8 rfl (fun hc1 => ?_) (fun hc1 => ?_)
    · exact absurd hc1 (nI_m1 rfl (by omega))
    · refine xs_f 20 r_187_19 rfl ?_
      refine xs_f 21 r_187_20 rfl ?_
      refine xs_get 24 r_187_21 rfl rfl (by first | assumption | exact o0) (by rfl) ?_
      refine xs_f 26 r_187_24 rfl ?_
      refine xs_f 27 r_187_26 rfl ?_
      refine xs_f 28 r_187_27 rfl ?_
      refine xs_aldI 29 r_187_28 (fun _ _ => rfl) rfl rfl rfl (j := (126 + (pla (gQ G mn) no n))) (nI_addE (nI_k 126) rfl) g0 (by omega) ?_
      refine xs_call (lv2 := [(0, _), (1, _)]) r_187_29 rfl rfl (by decide) (xcan_0 rfl rfl (by first | assumption | exact o0) (by rfl)) rfl ?_
      refine xs_f 1 r_152_0 rfl ?_
      refine xs_f 2 r_152_1 rfl ?_
      refine xs_putC 5 r_152_2 rfl o0 (by rfl) (by rfl) (fun f2 o2 y2 => ?_)
      have g3 := g0.fr (y2 _ (by omega))
      have Y4 := (Fr.rf : Fr h.1 h.1 a (a + 1)).tr (y2.wd (by omega) (by omega))
      refine xs_f 6 r_152_5 rfl ?_
      refine xs_ret r_152_6 rfl ?_
      refine xK_v rfl ?_
      refine xs_ret r_187_32 rfl ?_
      first
        | exact mq k (if_pos hq) o2 Y4
        | exact mq k (if_neg (by omega)) o2 Y4
  · refine xK_v rfl ?_
    refine xs_f 6 (lv2 := [(2, _), (0, _), (1, _)]) r_187_5 rfl ?_
    refine xs_f 7 r_187_6 rfl ?_
    refine xs_f 8 r_187_7 rfl ?_
    refine xs_f 11 r_187_8 rfl ?_
    refine xs_f 12 r_187_11 rfl ?_
    refine xs_f 13 r_187_12 rfl ?_
    refine xs_call (lv2 := [(0, _), (1, _)]) r_187_13 rfl rfl (by decide) (xcan_0 rfl rfl (by first | assumption | exact o0) (by rfl)) rfl ?_
    refine xs_f 1 r_153_0 rfl ?_
    refine xs_f 2 r_153_1 rfl ?_
    refine xs_putC 5 r_153_2 rfl o0 (by rfl) (by rfl) (fun f5 o5 y5 => ?_)
    have g6 := g0.fr (y5 _ (by omega))
    have Y7 := (Fr.rf : Fr h.1 h.1 a (a + 1)).tr (y5.wd (by omega) (by omega))
    refine xs_f 6 r_153_5 rfl ?_
    refine xs_ret r_153_6 rfl ?_
    refine xK_v rfl ?_
    refine xs_f 32 r_187_16 rfl ?_
    refine xs_ret r_187_32 rfl ?_
    first
      | exact mq k (if_pos hq) o5 Y7
      | exact mq k (if_neg (by omega)) o5 Y7

theorem m_188 {S : XSc} {d : Nat} {h : XH} {Q : XO → XH → Prop} {a : Nat} {G : Nat → Int32} {np no : Nat} {mn : Nat → Nat} {ch sv ty ea fa ol th sp wr : Int32} (o0 : h.1 a = some (.inr (9, mO a ch sv ty ea fa ol th sp wr))) (g0 : IA h.1 0 (a + 1) 288 G) (hG : WG G np no mn) (h32 : 32 ≤ a) {n : Int32} (k : ∀ f, f a = some (.inr (9, mO a ch sv ty ea fa ol (nI (R_q (gQ G mn) no n (fun q => nI q.2.2.1)).1) sp wr)) → Fr h.1 f a (a + 1) → Q (.inl (some (.int (R_q (gQ G mn) no n (fun q => nI q.2.2.1)).2))) (f, h.2)) : xP S (d + 1) 188 0 [(0, .ref a), (1, .int n)] [] h Q := by
  refine xs_f 1 r_188_0 rfl ?_
  refine xs_f 2 r_188_1 rfl ?_
  refine xs_call (lv2 := [(0, _), (1, _)]) r_188_2 rfl rfl (by decide) (xcan_0 rfl rfl (by first | assumption | exact o0) (by rfl)) rfl (m_158 o0 g0 hG h32 (fun hq => ?_) (fun hq => ?_))
  · have no6 := hG.2.1.2
    have mn5 := (hG.2.2 (pla (gQ G mn) no n) (by omega)).2
    refine xK_v rfl ?_
    refine xs_f 6 (lv2 := [(2, _), (0, _), (1, _)]) r_188_5 rfl ?_
    refine xs_f 7 r_188_6 rfl ?_
    refine xs_f 8 r_188_7 rfl ?_
    refine xs_if 11 19 r_188_8 rfl (fun hc1 => ?_) (fun hc1 => ?_)
    · exact absurd hc1 (nI_m1 rfl (by omega))
    · refine xs_f 20 r_188_19 rfl ?_
      refine xs_f 21 r_188_20 rfl ?_
      refine xs_get 24 r_188_21 rfl rfl (by first | assumption | exact o0) (by rfl) ?_
      refine xs_f 27 r_188_24 rfl ?_
      refine xs_f 28 r_188_27 rfl ?_
      refine xs_f 29 r_188_28 rfl ?_
      refine xs_aldI 30 r_188_29 (fun _ _ => rfl) rfl rfl rfl (j := (132 + (pla (gQ G mn) no n))) (nI_addE (nI_k 132) rfl) g0 (by omega) ?_
      rw [(hG.2.2 (pla (gQ G mn) no n) (by omega)).1]
      refine xs_call (lv2 := [(0, _), (1, _)]) r_188_30 rfl rfl (by decide) (xcan_0 rfl rfl (by first | assumption | exact o0) (by rfl)) rfl ?_
      refine xs_f 1 r_152_0 rfl ?_
      refine xs_f 2 r_152_1 rfl ?_
      refine xs_putC 5 r_152_2 rfl o0 (by rfl) (by rfl) (fun f2 o2 y2 => ?_)
      have g3 := g0.fr (y2 _ (by omega))
      have Y4 := (Fr.rf : Fr h.1 h.1 a (a + 1)).tr (y2.wd (by omega) (by omega))
      refine xs_f 6 r_152_5 rfl ?_
      refine xs_ret r_152_6 rfl ?_
      refine xK_v rfl ?_
      refine xs_ret r_188_33 rfl ?_
      first
        | exact mq k (if_pos hq) o2 Y4
        | exact mq k (if_neg (by omega)) o2 Y4
  · refine xK_v rfl ?_
    refine xs_f 6 (lv2 := [(2, _), (0, _), (1, _)]) r_188_5 rfl ?_
    refine xs_f 7 r_188_6 rfl ?_
    refine xs_f 8 r_188_7 rfl ?_
    refine xs_f 11 r_188_8 rfl ?_
    refine xs_f 12 r_188_11 rfl ?_
    refine xs_f 13 r_188_12 rfl ?_
    refine xs_call (lv2 := [(0, _), (1, _)]) r_188_13 rfl rfl (by decide) (xcan_0 rfl rfl (by first | assumption | exact o0) (by rfl)) rfl ?_
    refine xs_f 1 r_153_0 rfl ?_
    refine xs_f 2 r_153_1 rfl ?_
    refine xs_putC 5 r_153_2 rfl o0 (by rfl) (by rfl) (fun f5 o5 y5 => ?_)
    have g6 := g0.fr (y5 _ (by omega))
    have Y7 := (Fr.rf : Fr h.1 h.1 a (a + 1)).tr (y5.wd (by omega) (by omega))
    refine xs_f 6 r_153_5 rfl ?_
    refine xs_ret r_153_6 rfl ?_
    refine xK_v rfl ?_
    refine xs_f 33 r_188_16 rfl ?_
    refine xs_ret r_188_33 rfl ?_
    first
      | exact mq k (if_pos hq) o5 Y7
      | exact mq k (if_neg (by omega)) o5 Y7

theorem m_189 {S : XSc} {d : Nat} {h : XH} {Q : XO → XH → Prop} {a : Nat} {G : Nat → Int32} {np no : Nat} {mn : Nat → Nat} {ch sv ty ea fa ol th sp wr : Int32} (o0 : h.1 a = some (.inr (9, mO a ch sv ty ea fa ol th sp wr))) (g0 : IA h.1 0 (a + 1) 288 G) (hG : WG G np no mn) (h32 : 32 ≤ a) {n r : Int32} (k : ∀ f, f a = some (.inr (9, mO a ch sv ty ea fa ol (nI (R_est (gQ G mn) no n r).1) sp wr)) → Fr h.1 f a (a + 1) → Q (.inl (some (.int (R_est (gQ G mn) no n r).2))) (f, h.2)) : xP S (d + 1) 189 0 [(0, .ref a), (1, .int n), (2, .int r)] [] h Q := by
  refine xs_f 1 r_189_0 rfl ?_
  refine xs_f 2 r_189_1 rfl ?_
  refine xs_call (lv2 := [(0, _), (1, _)]) r_189_2 rfl rfl (by decide) (xcan_0 rfl rfl (by first | assumption | exact o0) (by rfl)) rfl (m_158 o0 g0 hG h32 (fun hq => ?_) (fun hq => ?_))
  · have no6 := hG.2.1.2
    have mn5 := (hG.2.2 (pla (gQ G mn) no n) (by omega)).2
    refine xK_v rfl ?_
    refine xs_f 6 (lv2 := [(3, _), (0, _), (1, _), (2, _)]) r_189_5 rfl ?_
    refine xs_f 7 r_189_6 rfl ?_
    refine xs_f 8 r_189_7 rfl ?_
    refine xs_if 11 17 r_189_8 rfl (fun hc1 => ?_) (fun hc1 => ?_)
    · exact absurd hc1 (nI_m1 rfl (by omega))
    · refine xs_f 18 r_189_17 rfl ?_
      refine xs_f 19 r_189_18 rfl ?_
      refine xs_f 20 r_189_19 rfl ?_
      refine xs_get 23 r_189_20 rfl rfl (by first | assumption | exact o0) (by rfl) ?_
      refine xs_f 26 r_189_23 rfl ?_
      refine xs_f 27 r_189_26 rfl ?_
      refine xs_f 28 r_189_27 rfl ?_
      refine xs_aldI 29 r_189_28 (fun _ _ => rfl) rfl rfl rfl (j := (132 + (pla (gQ G mn) no n))) (nI_addE (nI_k 132) rfl) g0 (by omega) ?_
      rw [(hG.2.2 (pla (gQ G mn) no n) (by omega)).1]
      refine xs_f 30 r_189_29 rfl ?_
      refine xs_f 31 r_189_30 rfl ?_
      refine xs_call (lv2 := [(0, _), (1, _), (2, _)]) r_189_31 rfl rfl (by decide) (xcan_1 rfl) rfl (m_150 (fun hb => ?_) (fun hb => ?_))
      · have hp : isPl (mn (pla (gQ G mn) no n)) r := ⟨hb.1, (leP (by omega) _).mp hb.2⟩
        obtain ⟨i, hi, hpi, hcl⟩ := isPl_c hp (by omega)
        refine xK_v rfl ?_
        refine xs_f 37 r_189_34 rfl ?_
        refine xs_f 38 r_189_37 rfl ?_
        refine xs_f 39 r_189_38 rfl ?_
        refine xs_get 42 r_189_39 rfl rfl (by first | assumption | exact o0) (by rfl) ?_
        refine xs_f 43 r_189_42 rfl ?_
        refine xs_f 44 r_189_43 rfl ?_
        refine xs_call (lv2 := [(0, _), (1, _)]) r_189_44 rfl rfl (by decide) (xcan_1 rfl) rfl ?_
        refine xs_f 3 r_159_0 rfl ?_
        refine xs_f 5 r_159_3 rfl ?_
        refine xs_f 6 r_159_5 rfl ?_
        refine xs_f 7 r_159_6 rfl ?_
        refine xs_f 8 r_159_7 rfl ?_
        refine xs_f 9 r_159_8 rfl ?_
        refine xs_f 10 r_159_9 rfl ?_
        refine xs_f 11 r_159_10 rfl ?_
        refine xs_f 12 r_159_11 rfl ?_
        refine xs_ret r_159_12 rfl ?_
        refine xK_v rfl ?_
        refine xs_f 48 r_189_47 rfl ?_
        refine xs_f 49 r_189_48 rfl ?_
        refine xs_aldI 50 r_189_49 (fun _ _ => rfl) rfl rfl rfl (j := (((138 + (25 * (pla (gQ G mn) no n))) + (5 * i)) + 0)) (nI_addE (nI_addE (nI_addE (nI_k 138) (nI_mulE (nI_k 25) rfl)) (nI_mulE (nI_k 5) hpi)) (nI_k 0)) g0 (by omega) ?_
        refine xs_call (lv2 := [(0, _), (1, _)]) r_189_50 rfl rfl (by decide) (xcan_0 rfl rfl (by first | assumption | exact o0) (by rfl)) rfl ?_
        refine xs_f 1 r_152_0 rfl ?_
        refine xs_f 2 r_152_1 rfl ?_
        refine xs_putC 5 r_152_2 rfl o0 (by rfl) (by rfl) (fun f3 o3 y3 => ?_)
        have g4 := g0.fr (y3 _ (by omega))
        have Y5 := (Fr.rf : Fr h.1 h.1 a (a + 1)).tr (y3.wd (by omega) (by omega))
        refine xs_f 6 r_152_5 rfl ?_
        refine xs_ret r_152_6 rfl ?_
        refine xK_v rfl ?_
        refine xs_f 61 r_189_53 rfl ?_
        refine xs_ret r_189_61 rfl ?_
        first
          | exact mq k ((if_pos hq).trans ((if_pos hp).trans (by rw [hcl]; rfl))) o3 Y5
          | exact mq k ((if_pos hq).trans (if_neg (fun z => hb ⟨z.1, (leP (by show mn (pla (gQ G mn) no n) ≤ _; omega) _).mpr z.2⟩))) o3 Y5
          | exact mq k (if_neg (by omega)) o3 Y5
      · refine xK_v rfl ?_
        refine xs_f 56 r_189_34 rfl ?_
        refine xs_f 57 r_189_56 rfl ?_
        refine xs_f 58 r_189_57 rfl ?_
        refine xs_call (lv2 := [(0, _), (1, _)]) r_189_58 rfl rfl (by decide) (xcan_0 rfl rfl (by first | assumption | exact o0) (by rfl)) rfl ?_
        refine xs_f 1 r_153_0 rfl ?_
        refine xs_f 2 r_153_1 rfl ?_
        refine xs_putC 5 r_153_2 rfl o0 (by rfl) (by rfl) (fun f6 o6 y6 => ?_)
        have g7 := g0.fr (y6 _ (by omega))
        have Y8 := (Fr.rf : Fr h.1 h.1 a (a + 1)).tr (y6.wd (by omega) (by omega))
        refine xs_f 6 r_153_5 rfl ?_
        refine xs_ret r_153_6 rfl ?_
        refine xK_v rfl ?_
        refine xs_ret r_189_61 rfl ?_
        first
          | exact mq k ((if_pos hq).trans ((if_pos hp).trans (by rw [hcl]; rfl))) o6 Y8
          | exact mq k ((if_pos hq).trans (if_neg (fun z => hb ⟨z.1, (leP (by show mn (pla (gQ G mn) no n) ≤ _; omega) _).mpr z.2⟩))) o6 Y8
          | exact mq k (if_neg (by omega)) o6 Y8
  · refine xK_v rfl ?_
    refine xs_f 6 (lv2 := [(3, _), (0, _), (1, _), (2, _)]) r_189_5 rfl ?_
    refine xs_f 7 r_189_6 rfl ?_
    refine xs_f 8 r_189_7 rfl ?_
    refine xs_f 11 r_189_8 rfl ?_
    refine xs_f 12 r_189_11 rfl ?_
    refine xs_f 13 r_189_12 rfl ?_
    refine xs_call (lv2 := [(0, _), (1, _)]) r_189_13 rfl rfl (by decide) (xcan_0 rfl rfl (by first | assumption | exact o0) (by rfl)) rfl ?_
    refine xs_f 1 r_153_0 rfl ?_
    refine xs_f 2 r_153_1 rfl ?_
    refine xs_putC 5 r_153_2 rfl o0 (by rfl) (by rfl) (fun f9 o9 y9 => ?_)
    have g10 := g0.fr (y9 _ (by omega))
    have Y11 := (Fr.rf : Fr h.1 h.1 a (a + 1)).tr (y9.wd (by omega) (by omega))
    refine xs_f 6 r_153_5 rfl ?_
    refine xs_ret r_153_6 rfl ?_
    refine xK_v rfl ?_
    refine xs_ret r_189_16 rfl ?_
    first
      | exact mq k ((if_pos hq).trans ((if_pos hp).trans (by rw [hcl]; rfl))) o9 Y11
      | exact mq k ((if_pos hq).trans (if_neg (fun z => hb ⟨z.1, (leP (by show mn (pla (gQ G mn) no n) ≤ _; omega) _).mpr z.2⟩))) o9 Y11
      | exact mq k (if_neg (by omega)) o9 Y11

theorem m_199 {S : XSc} {d : Nat} {h : XH} {Q : XO → XH → Prop} {a : Nat} {G : Nat → Int32} {np no : Nat} {mn : Nat → Nat} {ch sv ty ea fa ol th sp wr : Int32} (o0 : h.1 a = some (.inr (9, mO a ch sv ty ea fa ol th sp wr))) (g0 : IA h.1 0 (a + 1) 288 G) (hG : WG G np no mn) (h32 : 32 ≤ a) {n v : Int32} (k : ∀ f, f a = some (.inr (9, mO a ch sv ty ea fa ol (nI (R_cov (gQ G mn) no n v).1) sp wr)) → Fr h.1 f a (a + 1) → Q (.inl (some (.int (R_cov (gQ G mn) no n v).2))) (f, h.2)) : xP S (d + 2) 199 0 [(0, .ref a), (1, .int n), (2, .int v)] [] h Q := by
  refine xs_f 1 r_199_0 rfl ?_
  refine xs_f 2 r_199_1 rfl ?_
  refine xs_call (lv2 := [(0, _), (1, _)]) r_199_2 rfl rfl (by decide) (xcan_0 rfl rfl (by first | assumption | exact o0) (by rfl)) rfl (m_158 o0 g0 hG h32 (fun hq => ?_) (fun hq => ?_))
  · have no6 := hG.2.1.2
    have mn5 := (hG.2.2 (pla (gQ G mn) no n) (by omega)).2
    refine xK_v rfl ?_
    refine xs_f 6 (lv2 := [(3, _), (0, _), (1, _), (2, _)]) r_199_5 rfl ?_
    refine xs_f 7 r_199_6 rfl ?_
    refine xs_f 8 r_199_7 rfl ?_
    refine xs_if 11 17 r_199_8 rfl (fun hc1 => ?_) (fun hc1 => ?_)
    · exact absurd hc1 (nI_m1 rfl (by omega))
    · refine xs_f 18 r_199_17 rfl ?_
      refine xs_f 19 r_199_18 rfl ?_
      refine xs_f 22 r_199_19 rfl ?_
      refine xs_call (lv2 := [(0, _), (1, _), (2, _)]) r_199_22 rfl rfl (by decide) (xcan_1 rfl) rfl (m_150 (fun hb => ?_) (fun hb => ?_))
      · refine xK_v rfl ?_
        refine xs_f 28 r_199_25 rfl ?_
        refine xs_f 29 r_199_28 rfl ?_
        refine xs_f 30 r_199_29 rfl ?_
        refine xs_f 31 r_199_30 rfl ?_
        refine xs_f 32 r_199_31 rfl ?_
        refine xs_call (lv2 := [(0, _), (1, _), (2, _)]) r_199_32 rfl rfl (by decide) (xcan_0 rfl rfl (by first | assumption | exact o0) (by rfl)) rfl (m_198 o0 g0 hG h32 (i := (pla (gQ G mn) no n)) (by omega) ?_)
        refine xK_v rfl ?_
        refine xs_call (lv2 := [(0, _), (1, _)]) r_199_35 rfl rfl (by decide) (xcan_0 rfl rfl (by first | assumption | exact o0) (by rfl)) rfl ?_
        refine xs_f 1 r_152_0 rfl ?_
        refine xs_f 2 r_152_1 rfl ?_
        refine xs_putC 5 r_152_2 rfl o0 (by rfl) (by rfl) (fun f2 o2 y2 => ?_)
        have g3 := g0.fr (y2 _ (by omega))
        have Y4 := (Fr.rf : Fr h.1 h.1 a (a + 1)).tr (y2.wd (by omega) (by omega))
        refine xs_f 6 r_152_5 rfl ?_
        refine xs_ret r_152_6 rfl ?_
        refine xK_v rfl ?_
        refine xs_f 46 r_199_38 rfl ?_
        refine xs_ret r_199_46 rfl ?_
        first
          | exact mq k ((if_pos hq).trans (if_pos hb)) o2 Y4
          | exact mq k ((if_pos hq).trans (if_neg hb)) o2 Y4
          | exact mq k (if_neg (by omega)) o2 Y4
      · refine xK_v rfl ?_
        refine xs_f 41 r_199_25 rfl ?_
        refine xs_f 42 r_199_41 rfl ?_
        refine xs_f 43 r_199_42 rfl ?_
        refine xs_call (lv2 := [(0, _), (1, _)]) r_199_43 rfl rfl (by decide) (xcan_0 rfl rfl (by first | assumption | exact o0) (by rfl)) rfl ?_
        refine xs_f 1 r_153_0 rfl ?_
        refine xs_f 2 r_153_1 rfl ?_
        refine xs_putC 5 r_153_2 rfl o0 (by rfl) (by rfl) (fun f5 o5 y5 => ?_)
        have g6 := g0.fr (y5 _ (by omega))
        have Y7 := (Fr.rf : Fr h.1 h.1 a (a + 1)).tr (y5.wd (by omega) (by omega))
        refine xs_f 6 r_153_5 rfl ?_
        refine xs_ret r_153_6 rfl ?_
        refine xK_v rfl ?_
        refine xs_ret r_199_46 rfl ?_
        first
          | exact mq k ((if_pos hq).trans (if_pos hb)) o5 Y7
          | exact mq k ((if_pos hq).trans (if_neg hb)) o5 Y7
          | exact mq k (if_neg (by omega)) o5 Y7
  · refine xK_v rfl ?_
    refine xs_f 6 (lv2 := [(3, _), (0, _), (1, _), (2, _)]) r_199_5 rfl ?_
    refine xs_f 7 r_199_6 rfl ?_
    refine xs_f 8 r_199_7 rfl ?_
    refine xs_f 11 r_199_8 rfl ?_
    refine xs_f 12 r_199_11 rfl ?_
    refine xs_f 13 r_199_12 rfl ?_
    refine xs_call (lv2 := [(0, _), (1, _)]) r_199_13 rfl rfl (by decide) (xcan_0 rfl rfl (by first | assumption | exact o0) (by rfl)) rfl ?_
    refine xs_f 1 r_153_0 rfl ?_
    refine xs_f 2 r_153_1 rfl ?_
    refine xs_putC 5 r_153_2 rfl o0 (by rfl) (by rfl) (fun f8 o8 y8 => ?_)
    have g9 := g0.fr (y8 _ (by omega))
    have Y10 := (Fr.rf : Fr h.1 h.1 a (a + 1)).tr (y8.wd (by omega) (by omega))
    refine xs_f 6 r_153_5 rfl ?_
    refine xs_ret r_153_6 rfl ?_
    refine xK_v rfl ?_
    refine xs_ret r_199_16 rfl ?_
    first
      | exact mq k ((if_pos hq).trans (if_pos hb)) o8 Y10
      | exact mq k ((if_pos hq).trans (if_neg hb)) o8 Y10
      | exact mq k (if_neg (by omega)) o8 Y10

theorem m_190 {S : XSc} {d : Nat} {h : XH} {Q : XO → XH → Prop} {a : Nat} {G : Nat → Int32} {np no : Nat} {mn : Nat → Nat} {ch sv ty ea fa ol th sp wr : Int32} (o0 : h.1 a = some (.inr (9, mO a ch sv ty ea fa ol th sp wr))) (g0 : IA h.1 0 (a + 1) 288 G) (hG : WG G np no mn) (h32 : 32 ≤ a) {p n : Int32} (k : ∀ f, f a = some (.inr (9, mO a ch sv ty ea fa ol (nI (R_has np (gQ G mn) no p n).1) sp wr)) → Fr h.1 f a (a + 1) → Q (.inl (some (.int (R_has np (gQ G mn) no p n).2))) (f, h.2)) : xP S (d + 2) 190 0 [(0, .ref a), (1, .int p), (2, .int n)] [] h Q := by
  refine xs_f 1 r_190_0 rfl ?_
  refine xs_f 2 r_190_1 rfl ?_
  refine xs_call (lv2 := [(0, _), (1, _)]) r_190_2 rfl rfl (by decide) (xcan_0 rfl rfl (by first | assumption | exact o0) (by rfl)) rfl (m_158 o0 g0 hG h32 (fun hq => ?_) (fun hq => ?_))
  · have no6 := hG.2.1.2
    have mn5 := (hG.2.2 (pla (gQ G mn) no n) (by omega)).2
    refine xK_v rfl ?_
    refine xs_f 6 (lv2 := [(3, _), (0, _), (1, _), (2, _)]) r_190_5 rfl ?_
    refine xs_f 7 r_190_6 rfl ?_
    refine xs_f 8 r_190_7 rfl ?_
    refine xs_f 9 r_190_8 rfl ?_
    refine xs_call (lv2 := [(0, _), (1, _)]) r_190_9 rfl rfl (by decide) (xcan_0 rfl rfl (by first | assumption | exact o0) (by rfl)) rfl (m_157 o0 g0 hG h32 (fun hp => ?_) (fun hp => ?_))
    · refine xK_v rfl ?_
      refine xs_f 19 r_190_12 rfl ?_
      refine xs_f 20 r_190_19 rfl ?_
      refine xs_f 21 r_190_20 rfl ?_
      refine xs_if 24 28 r_190_21 rfl (fun hc1 => ?_) (fun hc1 => ?_)
      · exact absurd hc1 (nI_m1 rfl (by omega))
      · refine xs_f 29 r_190_28 rfl ?_
        refine xs_putC 32 r_190_29 rfl o0 (by rfl) (by rfl) (fun f3 o3 y3 => ?_)
        have g4 := g0.fr (y3 _ (by omega))
        have Y5 := (Fr.rf : Fr h.1 h.1 a (a + 1)).tr (y3.wd (by omega) (by omega))
        refine xs_f 33 r_190_32 rfl ?_
        refine xs_get 36 r_190_33 rfl rfl (by first | assumption | exact o3) (by rfl) ?_
        refine xs_f 39 r_190_36 rfl ?_
        refine xs_f 40 r_190_39 rfl ?_
        refine xs_f 41 r_190_40 rfl ?_
        refine xs_f 42 r_190_41 rfl ?_
        refine xs_call (lv2 := [(0, _), (1, _), (2, _)]) r_190_42 rfl rfl (by decide) (xcan_0 rfl rfl (by first | assumption | exact o3) (by rfl)) rfl (m_160 o3 g4 hG h32 (i := (pla (gQ G mn) no n)) (by omega) (fun hr => ?_) (fun hr => ?_))
        · refine xK_v rfl ?_
          refine xs_f 46 r_190_45 rfl ?_
          refine xs_if 53 49 r_190_46 rfl (fun hc3 => ?_) (fun hc3 => ?_)
          · exact absurd hc3 (nI_m1 rfl (by omega))
          · refine xs_f 50 r_190_49 rfl ?_
            refine xs_f 54 r_190_50 rfl ?_
            refine xs_ret r_190_54 rfl ?_
            first
              | exact mq k ((if_pos hp).trans ((if_pos hq).trans (by rw [show decide (rnk (gQ G mn (pla (gQ G mn) no n)).2.2.2 (gQ G mn (pla (gQ G mn) no n)).2.2.1 p < (gQ G mn (pla (gQ G mn) no n)).2.2.1) = true from decide_eq_true hr]; rfl))) o3 Y5
              | exact mq k ((if_pos hp).trans ((if_pos hq).trans (by rw [show decide (rnk (gQ G mn (pla (gQ G mn) no n)).2.2.2 (gQ G mn (pla (gQ G mn) no n)).2.2.1 p < (gQ G mn (pla (gQ G mn) no n)).2.2.1) = false from decide_eq_false (by show ¬ rnk (gE G (pla (gQ G mn) no n)) (mn (pla (gQ G mn) no n)) p < mn (pla (gQ G mn) no n); omega)]; rfl))) o3 Y5
              | exact mq k ((if_pos hp).trans (if_neg (by omega))) o3 Y5
              | exact mq k (if_neg hp) o3 Y5
        · refine xK_v rfl ?_
          refine xs_f 46 r_190_45 rfl ?_
          refine xs_f 53 r_190_46 rfl ?_
          refine xs_f 54 r_190_53 rfl ?_
          refine xs_ret r_190_54 rfl ?_
          first
            | exact mq k ((if_pos hp).trans ((if_pos hq).trans (by rw [show decide (rnk (gQ G mn (pla (gQ G mn) no n)).2.2.2 (gQ G mn (pla (gQ G mn) no n)).2.2.1 p < (gQ G mn (pla (gQ G mn) no n)).2.2.1) = true from decide_eq_true hr]; rfl))) o3 Y5
            | exact mq k ((if_pos hp).trans ((if_pos hq).trans (by rw [show decide (rnk (gQ G mn (pla (gQ G mn) no n)).2.2.2 (gQ G mn (pla (gQ G mn) no n)).2.2.1 p < (gQ G mn (pla (gQ G mn) no n)).2.2.1) = false from decide_eq_false (by show ¬ rnk (gE G (pla (gQ G mn) no n)) (mn (pla (gQ G mn) no n)) p < mn (pla (gQ G mn) no n); omega)]; rfl))) o3 Y5
            | exact mq k ((if_pos hp).trans (if_neg (by omega))) o3 Y5
            | exact mq k (if_neg hp) o3 Y5
    · refine xK_v rfl ?_
      refine xs_f 15 r_190_12 rfl ?_
      refine xs_f 16 r_190_15 rfl ?_
      refine xs_f 29 r_190_16 rfl ?_
      refine xs_putC 32 r_190_29 rfl o0 (by rfl) (by rfl) (fun f7 o7 y7 => ?_)
      have g8 := g0.fr (y7 _ (by omega))
      have Y9 := (Fr.rf : Fr h.1 h.1 a (a + 1)).tr (y7.wd (by omega) (by omega))
      refine xs_f 33 r_190_32 rfl ?_
      refine xs_get 36 r_190_33 rfl rfl (by first | assumption | exact o7) (by rfl) ?_
      refine xs_f 53 r_190_36 rfl ?_
      refine xs_f 54 r_190_53 rfl ?_
      refine xs_ret r_190_54 rfl ?_
      first
        | exact mq k ((if_pos hp).trans ((if_pos hq).trans (by rw [show decide (rnk (gQ G mn (pla (gQ G mn) no n)).2.2.2 (gQ G mn (pla (gQ G mn) no n)).2.2.1 p < (gQ G mn (pla (gQ G mn) no n)).2.2.1) = true from decide_eq_true hr]; rfl))) o7 Y9
        | exact mq k ((if_pos hp).trans ((if_pos hq).trans (by rw [show decide (rnk (gQ G mn (pla (gQ G mn) no n)).2.2.2 (gQ G mn (pla (gQ G mn) no n)).2.2.1 p < (gQ G mn (pla (gQ G mn) no n)).2.2.1) = false from decide_eq_false (by show ¬ rnk (gE G (pla (gQ G mn) no n)) (mn (pla (gQ G mn) no n)) p < mn (pla (gQ G mn) no n); omega)]; rfl))) o7 Y9
        | exact mq k ((if_pos hp).trans (if_neg (by omega))) o7 Y9
        | exact mq k (if_neg hp) o7 Y9
  · refine xK_v rfl ?_
    refine xs_f 6 (lv2 := [(3, _), (0, _), (1, _), (2, _)]) r_190_5 rfl ?_
    refine xs_f 7 r_190_6 rfl ?_
    refine xs_f 8 r_190_7 rfl ?_
    refine xs_f 9 r_190_8 rfl ?_
    refine xs_call (lv2 := [(0, _), (1, _)]) r_190_9 rfl rfl (by decide) (xcan_0 rfl rfl (by first | assumption | exact o0) (by rfl)) rfl (m_157 o0 g0 hG h32 (fun hp => ?_) (fun hp => ?_))
    · refine xK_v rfl ?_
      refine xs_f 19 r_190_12 rfl ?_
      refine xs_f 20 r_190_19 rfl ?_
      refine xs_f 21 r_190_20 rfl ?_
      refine xs_f 24 r_190_21 rfl ?_
      refine xs_f 25 r_190_24 rfl ?_
      refine xs_f 29 r_190_25 rfl ?_
      refine xs_putC 32 r_190_29 rfl o0 (by rfl) (by rfl) (fun f11 o11 y11 => ?_)
      have g12 := g0.fr (y11 _ (by omega))
      have Y13 := (Fr.rf : Fr h.1 h.1 a (a + 1)).tr (y11.wd (by omega) (by omega))
      refine xs_f 33 r_190_32 rfl ?_
      refine xs_get 36 r_190_33 rfl rfl (by first | assumption | exact o11) (by rfl) ?_
      refine xs_f 53 r_190_36 rfl ?_
      refine xs_f 54 r_190_53 rfl ?_
      refine xs_ret r_190_54 rfl ?_
      first
        | exact mq k ((if_pos hp).trans ((if_pos hq).trans (by rw [show decide (rnk (gQ G mn (pla (gQ G mn) no n)).2.2.2 (gQ G mn (pla (gQ G mn) no n)).2.2.1 p < (gQ G mn (pla (gQ G mn) no n)).2.2.1) = true from decide_eq_true hr]; rfl))) o11 Y13
        | exact mq k ((if_pos hp).trans ((if_pos hq).trans (by rw [show decide (rnk (gQ G mn (pla (gQ G mn) no n)).2.2.2 (gQ G mn (pla (gQ G mn) no n)).2.2.1 p < (gQ G mn (pla (gQ G mn) no n)).2.2.1) = false from decide_eq_false (by show ¬ rnk (gE G (pla (gQ G mn) no n)) (mn (pla (gQ G mn) no n)) p < mn (pla (gQ G mn) no n); omega)]; rfl))) o11 Y13
        | exact mq k ((if_pos hp).trans (if_neg (by omega))) o11 Y13
        | exact mq k (if_neg hp) o11 Y13
    · refine xK_v rfl ?_
      refine xs_f 15 r_190_12 rfl ?_
      refine xs_f 16 r_190_15 rfl ?_
      refine xs_f 29 r_190_16 rfl ?_
      refine xs_putC 32 r_190_29 rfl o0 (by rfl) (by rfl) (fun f14 o14 y14 => ?_)
      have g15 := g0.fr (y14 _ (by omega))
      have Y16 := (Fr.rf : Fr h.1 h.1 a (a + 1)).tr (y14.wd (by omega) (by omega))
      refine xs_f 33 r_190_32 rfl ?_
      refine xs_get 36 r_190_33 rfl rfl (by first | assumption | exact o14) (by rfl) ?_
      refine xs_f 53 r_190_36 rfl ?_
      refine xs_f 54 r_190_53 rfl ?_
      refine xs_ret r_190_54 rfl ?_
      first
        | exact mq k ((if_pos hp).trans ((if_pos hq).trans (by rw [show decide (rnk (gQ G mn (pla (gQ G mn) no n)).2.2.2 (gQ G mn (pla (gQ G mn) no n)).2.2.1 p < (gQ G mn (pla (gQ G mn) no n)).2.2.1) = true from decide_eq_true hr]; rfl))) o14 Y16
        | exact mq k ((if_pos hp).trans ((if_pos hq).trans (by rw [show decide (rnk (gQ G mn (pla (gQ G mn) no n)).2.2.2 (gQ G mn (pla (gQ G mn) no n)).2.2.1 p < (gQ G mn (pla (gQ G mn) no n)).2.2.1) = false from decide_eq_false (by show ¬ rnk (gE G (pla (gQ G mn) no n)) (mn (pla (gQ G mn) no n)) p < mn (pla (gQ G mn) no n); omega)]; rfl))) o14 Y16
        | exact mq k ((if_pos hp).trans (if_neg (by omega))) o14 Y16
        | exact mq k (if_neg hp) o14 Y16

theorem m_193 {S : XSc} {d : Nat} {h : XH} {Q : XO → XH → Prop} {a : Nat} {G : Nat → Int32} {np no : Nat} {mn : Nat → Nat} {ch sv ty ea fa ol th sp wr : Int32} (o0 : h.1 a = some (.inr (9, mO a ch sv ty ea fa ol th sp wr))) (g0 : IA h.1 0 (a + 1) 288 G) (hG : WG G np no mn) (h32 : 32 ≤ a) {p n : Int32} (k : ∀ f, f a = some (.inr (9, mO a ch sv ty ea fa ol (nI (R_fld np (gQ G mn) no p n (fun e => e.2.1)).1) sp wr)) → Fr h.1 f a (a + 1) → Q (.inl (some (.int (R_fld np (gQ G mn) no p n (fun e => e.2.1)).2))) (f, h.2)) : xP S (d + 4) 193 0 [(0, .ref a), (1, .int p), (2, .int n)] [] h Q := by
  refine xs_f 1 r_193_0 rfl ?_
  refine xs_f 2 r_193_1 rfl ?_
  refine xs_f 3 r_193_2 rfl ?_
  refine xs_f 4 r_193_3 rfl ?_
  refine xs_call (lv2 := [(0, _), (1, _), (2, _), (3, _)]) r_193_4 rfl rfl (by decide) (xcan_0 rfl rfl (by first | assumption | exact o0) (by rfl)) rfl ?_
  refine xs_f 1 r_192_0 rfl ?_
  refine xs_f 2 r_192_1 rfl ?_
  refine xs_f 3 r_192_2 rfl ?_
  refine xs_call (lv2 := [(0, _), (1, _), (2, _)]) r_192_3 rfl rfl (by decide) (xcan_0 rfl rfl (by first | assumption | exact o0) (by rfl)) rfl ?_
  refine xs_f 1 r_191_0 rfl ?_
  refine xs_f 2 r_191_1 rfl ?_
  refine xs_call (lv2 := [(0, _), (1, _)]) r_191_2 rfl rfl (by decide) (xcan_0 rfl rfl (by first | assumption | exact o0) (by rfl)) rfl (m_158 o0 g0 hG h32 (fun hq => ?_) (fun hq => ?_))
  · have no6 := hG.2.1.2
    have mn5 := (hG.2.2 (pla (gQ G mn) no n) (by omega)).2
    refine xK_v rfl ?_
    refine xs_f 6 (lv2 := [(3, _), (0, _), (1, _), (2, _)]) r_191_5 rfl ?_
    refine xs_f 7 r_191_6 rfl ?_
    refine xs_f 8 r_191_7 rfl ?_
    refine xs_if 11 15 r_191_8 rfl (fun hc1 => ?_) (fun hc1 => ?_)
    · exact absurd hc1 (nI_m1 rfl (by omega))
    · refine xs_f 16 r_191_15 rfl ?_
      refine xs_f 17 r_191_16 rfl ?_
      refine xs_f 18 r_191_17 rfl ?_
      refine xs_call (lv2 := [(0, _), (1, _), (2, _)]) r_191_18 rfl rfl (by decide) (xcan_0 rfl rfl (by first | assumption | exact o0) (by rfl)) rfl (m_160 o0 g0 hG h32 (i := (pla (gQ G mn) no n)) (by omega) (fun hr => ?_) (fun hr => ?_))
      · refine xK_v rfl ?_
        refine xs_f 23 (lv2 := [(4, _), (3, _), (0, _), (1, _), (2, _)]) r_191_21 rfl ?_
        refine xs_f 24 r_191_23 rfl ?_
        refine xs_f 25 r_191_24 rfl ?_
        refine xs_f 26 r_191_25 rfl ?_
        refine xs_call (lv2 := [(0, _), (1, _)]) r_191_26 rfl rfl (by decide) (xcan_0 rfl rfl (by first | assumption | exact o0) (by rfl)) rfl (m_157 o0 g0 hG h32 (fun hp => ?_) (fun hp => ?_))
        · refine xK_v rfl ?_
          refine xs_f 36 r_191_29 rfl ?_
          refine xs_f 38 r_191_36 rfl ?_
          refine xs_f 39 r_191_38 rfl ?_
          refine xs_if 42 46 r_191_39 rfl (fun hc2 => ?_) (fun hc2 => ?_)
          · exact absurd hc2 (nI_m1 rfl (by omega))
          · refine xs_f 47 r_191_46 rfl ?_
            refine xs_putC 50 r_191_47 rfl o0 (by rfl) (by rfl) (fun f4 o4 y4 => ?_)
            have g5 := g0.fr (y4 _ (by omega))
            have Y6 := (Fr.rf : Fr h.1 h.1 a (a + 1)).tr (y4.wd (by omega) (by omega))
            refine xs_f 51 r_191_50 rfl ?_
            refine xs_get 54 r_191_51 rfl rfl (by first | assumption | exact o4) (by rfl) ?_
            refine xs_f 57 r_191_54 rfl ?_
            refine xs_f 58 r_191_57 rfl ?_
            refine xs_f 60 r_191_58 rfl ?_
            refine xs_call (lv2 := [(0, _), (1, _)]) r_191_60 rfl rfl (by decide) (xcan_1 rfl) rfl ?_
            refine xs_f 3 r_159_0 rfl ?_
            refine xs_f 5 r_159_3 rfl ?_
            refine xs_f 6 r_159_5 rfl ?_
            refine xs_f 7 r_159_6 rfl ?_
            refine xs_f 8 r_159_7 rfl ?_
            refine xs_f 9 r_159_8 rfl ?_
            refine xs_f 10 r_159_9 rfl ?_
            refine xs_f 11 r_159_10 rfl ?_
            refine xs_f 12 r_159_11 rfl ?_
            refine xs_ret r_159_12 rfl ?_
            refine xK_v rfl ?_
            refine xs_f 67 r_191_63 rfl ?_
            refine xs_ret r_191_67 rfl ?_
            refine xK_v rfl ?_
            refine xs_f 8 (lv2 := [(4, _), (0, _), (1, _), (2, _), (3, _)]) r_192_6 rfl ?_
            refine xs_f 10 r_192_8 rfl ?_
            refine xs_f 11 r_192_10 rfl ?_
            refine xs_if 14 18 r_192_11 rfl (fun hc4 => ?_) (fun hc4 => ?_)
            · exact absurd hc4 (nI_m1 (nI_addE (nI_addE (nI_k 138) (nI_mulE (nI_k 25) rfl)) (nI_mulE (nI_k 5) rfl)) (by omega))
            · refine xs_f 19 r_192_18 rfl ?_
              refine xs_get 22 r_192_19 rfl rfl (by first | assumption | exact o4) (by rfl) ?_
              refine xs_f 24 r_192_22 rfl ?_
              refine xs_f 25 r_192_24 rfl ?_
              refine xs_f 26 r_192_25 rfl ?_
              refine xs_aldI 27 r_192_26 (fun _ _ => rfl) rfl rfl rfl (j := (((138 + (25 * (pla (gQ G mn) no n))) + (5 * (rnk (gE G (pla (gQ G mn) no n)) (mn (pla (gQ G mn) no n)) p))) + 1)) (nI_addE (nI_addE (nI_addE (nI_k 138) (nI_mulE (nI_k 25) rfl)) (nI_mulE (nI_k 5) rfl)) (nI_k 1)) g5 (by omega) ?_
              refine xs_ret r_192_27 rfl ?_
              refine xK_v rfl ?_
              refine xs_ret r_193_7 rfl ?_
              first
                | exact mq k ((if_pos hp).trans (if_pos ⟨hq, hr⟩)) o4 Y6
                | exact mq k ((if_pos hp).trans (if_neg (fun z => absurd z.1 (by omega)))) o4 Y6
                | exact mq k ((if_pos hp).trans (if_neg (fun z => absurd z.2 (by show ¬ rnk (gE G (pla (gQ G mn) no n)) (mn (pla (gQ G mn) no n)) p < mn (pla (gQ G mn) no n); omega)))) o4 Y6
                | exact mq k (if_neg hp) o4 Y6
        · refine xK_v rfl ?_
          refine xs_f 32 r_191_29 rfl ?_
          refine xs_f 33 r_191_32 rfl ?_
          refine xs_f 47 r_191_33 rfl ?_
          refine xs_putC 50 r_191_47 rfl o0 (by rfl) (by rfl) (fun f7 o7 y7 => ?_)
          have g8 := g0.fr (y7 _ (by omega))
          have Y9 := (Fr.rf : Fr h.1 h.1 a (a + 1)).tr (y7.wd (by omega) (by omega))
          refine xs_f 51 r_191_50 rfl ?_
          refine xs_get 54 r_191_51 rfl rfl (by first | assumption | exact o7) (by rfl) ?_
          refine xs_f 66 r_191_54 rfl ?_
          refine xs_f 67 r_191_66 rfl ?_
          refine xs_ret r_191_67 rfl ?_
          refine xK_v rfl ?_
          refine xs_f 8 (lv2 := [(4, _), (0, _), (1, _), (2, _), (3, _)]) r_192_6 rfl ?_
          refine xs_f 10 r_192_8 rfl ?_
          refine xs_f 11 r_192_10 rfl ?_
          refine xs_f 14 r_192_11 rfl ?_
          refine xs_f 15 r_192_14 rfl ?_
          refine xs_f 27 r_192_15 rfl ?_
          refine xs_ret r_192_27 rfl ?_
          refine xK_v rfl ?_
          refine xs_ret r_193_7 rfl ?_
          first
            | exact mq k ((if_pos hp).trans (if_pos ⟨hq, hr⟩)) o7 Y9
            | exact mq k ((if_pos hp).trans (if_neg (fun z => absurd z.1 (by omega)))) o7 Y9
            | exact mq k ((if_pos hp).trans (if_neg (fun z => absurd z.2 (by show ¬ rnk (gE G (pla (gQ G mn) no n)) (mn (pla (gQ G mn) no n)) p < mn (pla (gQ G mn) no n); omega)))) o7 Y9
            | exact mq k (if_neg hp) o7 Y9
      · refine xK_v rfl ?_
        refine xs_f 23 (lv2 := [(4, _), (3, _), (0, _), (1, _), (2, _)]) r_191_21 rfl ?_
        refine xs_f 24 r_191_23 rfl ?_
        refine xs_f 25 r_191_24 rfl ?_
        refine xs_f 26 r_191_25 rfl ?_
        refine xs_call (lv2 := [(0, _), (1, _)]) r_191_26 rfl rfl (by decide) (xcan_0 rfl rfl (by first | assumption | exact o0) (by rfl)) rfl (m_157 o0 g0 hG h32 (fun hp => ?_) (fun hp => ?_))
        · refine xK_v rfl ?_
          refine xs_f 36 r_191_29 rfl ?_
          refine xs_f 38 r_191_36 rfl ?_
          refine xs_f 39 r_191_38 rfl ?_
          refine xs_f 42 r_191_39 rfl ?_
          refine xs_f 43 r_191_42 rfl ?_
          refine xs_f 47 r_191_43 rfl ?_
          refine xs_putC 50 r_191_47 rfl o0 (by rfl) (by rfl) (fun f11 o11 y11 => ?_)
          have g12 := g0.fr (y11 _ (by omega))
          have Y13 := (Fr.rf : Fr h.1 h.1 a (a + 1)).tr (y11.wd (by omega) (by omega))
          refine xs_f 51 r_191_50 rfl ?_
          refine xs_get 54 r_191_51 rfl rfl (by first | assumption | exact o11) (by rfl) ?_
          refine xs_f 66 r_191_54 rfl ?_
          refine xs_f 67 r_191_66 rfl ?_
          refine xs_ret r_191_67 rfl ?_
          refine xK_v rfl ?_
          refine xs_f 8 (lv2 := [(4, _), (0, _), (1, _), (2, _), (3, _)]) r_192_6 rfl ?_
          refine xs_f 10 r_192_8 rfl ?_
          refine xs_f 11 r_192_10 rfl ?_
          refine xs_f 14 r_192_11 rfl ?_
          refine xs_f 15 r_192_14 rfl ?_
          refine xs_f 27 r_192_15 rfl ?_
          refine xs_ret r_192_27 rfl ?_
          refine xK_v rfl ?_
          refine xs_ret r_193_7 rfl ?_
          first
            | exact mq k ((if_pos hp).trans (if_pos ⟨hq, hr⟩)) o11 Y13
            | exact mq k ((if_pos hp).trans (if_neg (fun z => absurd z.1 (by omega)))) o11 Y13
            | exact mq k ((if_pos hp).trans (if_neg (fun z => absurd z.2 (by show ¬ rnk (gE G (pla (gQ G mn) no n)) (mn (pla (gQ G mn) no n)) p < mn (pla (gQ G mn) no n); omega)))) o11 Y13
            | exact mq k (if_neg hp) o11 Y13
        · refine xK_v rfl ?_
          refine xs_f 32 r_191_29 rfl ?_
          refine xs_f 33 r_191_32 rfl ?_
          refine xs_f 47 r_191_33 rfl ?_
          refine xs_putC 50 r_191_47 rfl o0 (by rfl) (by rfl) (fun f14 o14 y14 => ?_)
          have g15 := g0.fr (y14 _ (by omega))
          have Y16 := (Fr.rf : Fr h.1 h.1 a (a + 1)).tr (y14.wd (by omega) (by omega))
          refine xs_f 51 r_191_50 rfl ?_
          refine xs_get 54 r_191_51 rfl rfl (by first | assumption | exact o14) (by rfl) ?_
          refine xs_f 66 r_191_54 rfl ?_
          refine xs_f 67 r_191_66 rfl ?_
          refine xs_ret r_191_67 rfl ?_
          refine xK_v rfl ?_
          refine xs_f 8 (lv2 := [(4, _), (0, _), (1, _), (2, _), (3, _)]) r_192_6 rfl ?_
          refine xs_f 10 r_192_8 rfl ?_
          refine xs_f 11 r_192_10 rfl ?_
          refine xs_f 14 r_192_11 rfl ?_
          refine xs_f 15 r_192_14 rfl ?_
          refine xs_f 27 r_192_15 rfl ?_
          refine xs_ret r_192_27 rfl ?_
          refine xK_v rfl ?_
          refine xs_ret r_193_7 rfl ?_
          first
            | exact mq k ((if_pos hp).trans (if_pos ⟨hq, hr⟩)) o14 Y16
            | exact mq k ((if_pos hp).trans (if_neg (fun z => absurd z.1 (by omega)))) o14 Y16
            | exact mq k ((if_pos hp).trans (if_neg (fun z => absurd z.2 (by show ¬ rnk (gE G (pla (gQ G mn) no n)) (mn (pla (gQ G mn) no n)) p < mn (pla (gQ G mn) no n); omega)))) o14 Y16
            | exact mq k (if_neg hp) o14 Y16
  · refine xK_v rfl ?_
    refine xs_f 6 (lv2 := [(3, _), (0, _), (1, _), (2, _)]) r_191_5 rfl ?_
    refine xs_f 7 r_191_6 rfl ?_
    refine xs_f 8 r_191_7 rfl ?_
    refine xs_f 11 r_191_8 rfl ?_
    refine xs_f 12 r_191_11 rfl ?_
    refine xs_f 21 r_191_12 rfl ?_
    refine xs_f 23 (lv2 := [(4, _), (3, _), (0, _), (1, _), (2, _)]) r_191_21 rfl ?_
    refine xs_f 24 r_191_23 rfl ?_
    refine xs_f 25 r_191_24 rfl ?_
    refine xs_f 26 r_191_25 rfl ?_
    refine xs_call (lv2 := [(0, _), (1, _)]) r_191_26 rfl rfl (by decide) (xcan_0 rfl rfl (by first | assumption | exact o0) (by rfl)) rfl (m_157 o0 g0 hG h32 (fun hp => ?_) (fun hp => ?_))
    · refine xK_v rfl ?_
      refine xs_f 36 r_191_29 rfl ?_
      refine xs_f 38 r_191_36 rfl ?_
      refine xs_f 39 r_191_38 rfl ?_
      refine xs_f 42 r_191_39 rfl ?_
      refine xs_f 43 r_191_42 rfl ?_
      refine xs_f 47 r_191_43 rfl ?_
      refine xs_putC 50 r_191_47 rfl o0 (by rfl) (by rfl) (fun f18 o18 y18 => ?_)
      have g19 := g0.fr (y18 _ (by omega))
      have Y20 := (Fr.rf : Fr h.1 h.1 a (a + 1)).tr (y18.wd (by omega) (by omega))
      refine xs_f 51 r_191_50 rfl ?_
      refine xs_get 54 r_191_51 rfl rfl (by first | assumption | exact o18) (by rfl) ?_
      refine xs_f 66 r_191_54 rfl ?_
      refine xs_f 67 r_191_66 rfl ?_
      refine xs_ret r_191_67 rfl ?_
      refine xK_v rfl ?_
      refine xs_f 8 (lv2 := [(4, _), (0, _), (1, _), (2, _), (3, _)]) r_192_6 rfl ?_
      refine xs_f 10 r_192_8 rfl ?_
      refine xs_f 11 r_192_10 rfl ?_
      refine xs_f 14 r_192_11 rfl ?_
      refine xs_f 15 r_192_14 rfl ?_
      refine xs_f 27 r_192_15 rfl ?_
      refine xs_ret r_192_27 rfl ?_
      refine xK_v rfl ?_
      refine xs_ret r_193_7 rfl ?_
      first
        | exact mq k ((if_pos hp).trans (if_pos ⟨hq, hr⟩)) o18 Y20
        | exact mq k ((if_pos hp).trans (if_neg (fun z => absurd z.1 (by omega)))) o18 Y20
        | exact mq k ((if_pos hp).trans (if_neg (fun z => absurd z.2 (by show ¬ rnk (gE G (pla (gQ G mn) no n)) (mn (pla (gQ G mn) no n)) p < mn (pla (gQ G mn) no n); omega)))) o18 Y20
        | exact mq k (if_neg hp) o18 Y20
    · refine xK_v rfl ?_
      refine xs_f 32 r_191_29 rfl ?_
      refine xs_f 33 r_191_32 rfl ?_
      refine xs_f 47 r_191_33 rfl ?_
      refine xs_putC 50 r_191_47 rfl o0 (by rfl) (by rfl) (fun f21 o21 y21 => ?_)
      have g22 := g0.fr (y21 _ (by omega))
      have Y23 := (Fr.rf : Fr h.1 h.1 a (a + 1)).tr (y21.wd (by omega) (by omega))
      refine xs_f 51 r_191_50 rfl ?_
      refine xs_get 54 r_191_51 rfl rfl (by first | assumption | exact o21) (by rfl) ?_
      refine xs_f 66 r_191_54 rfl ?_
      refine xs_f 67 r_191_66 rfl ?_
      refine xs_ret r_191_67 rfl ?_
      refine xK_v rfl ?_
      refine xs_f 8 (lv2 := [(4, _), (0, _), (1, _), (2, _), (3, _)]) r_192_6 rfl ?_
      refine xs_f 10 r_192_8 rfl ?_
      refine xs_f 11 r_192_10 rfl ?_
      refine xs_f 14 r_192_11 rfl ?_
      refine xs_f 15 r_192_14 rfl ?_
      refine xs_f 27 r_192_15 rfl ?_
      refine xs_ret r_192_27 rfl ?_
      refine xK_v rfl ?_
      refine xs_ret r_193_7 rfl ?_
      first
        | exact mq k ((if_pos hp).trans (if_pos ⟨hq, hr⟩)) o21 Y23
        | exact mq k ((if_pos hp).trans (if_neg (fun z => absurd z.1 (by omega)))) o21 Y23
        | exact mq k ((if_pos hp).trans (if_neg (fun z => absurd z.2 (by show ¬ rnk (gE G (pla (gQ G mn) no n)) (mn (pla (gQ G mn) no n)) p < mn (pla (gQ G mn) no n); omega)))) o21 Y23
        | exact mq k (if_neg hp) o21 Y23

theorem m_194 {S : XSc} {d : Nat} {h : XH} {Q : XO → XH → Prop} {a : Nat} {G : Nat → Int32} {np no : Nat} {mn : Nat → Nat} {ch sv ty ea fa ol th sp wr : Int32} (o0 : h.1 a = some (.inr (9, mO a ch sv ty ea fa ol th sp wr))) (g0 : IA h.1 0 (a + 1) 288 G) (hG : WG G np no mn) (h32 : 32 ≤ a) {p n : Int32} (k : ∀ f, f a = some (.inr (9, mO a ch sv ty ea fa ol (nI (R_fld np (gQ G mn) no p n (fun e => e.2.2.1)).1) sp wr)) → Fr h.1 f a (a + 1) → Q (.inl (some (.int (R_fld np (gQ G mn) no p n (fun e => e.2.2.1)).2))) (f, h.2)) : xP S (d + 4) 194 0 [(0, .ref a), (1, .int p), (2, .int n)] [] h Q := by
  refine xs_f 1 r_194_0 rfl ?_
  refine xs_f 2 r_194_1 rfl ?_
  refine xs_f 3 r_194_2 rfl ?_
  refine xs_f 4 r_194_3 rfl ?_
  refine xs_call (lv2 := [(0, _), (1, _), (2, _), (3, _)]) r_194_4 rfl rfl (by decide) (xcan_0 rfl rfl (by first | assumption | exact o0) (by rfl)) rfl ?_
  refine xs_f 1 r_192_0 rfl ?_
  refine xs_f 2 r_192_1 rfl ?_
  refine xs_f 3 r_192_2 rfl ?_
  refine xs_call (lv2 := [(0, _), (1, _), (2, _)]) r_192_3 rfl rfl (by decide) (xcan_0 rfl rfl (by first | assumption | exact o0) (by rfl)) rfl ?_
  refine xs_f 1 r_191_0 rfl ?_
  refine xs_f 2 r_191_1 rfl ?_
  refine xs_call (lv2 := [(0, _), (1, _)]) r_191_2 rfl rfl (by decide) (xcan_0 rfl rfl (by first | assumption | exact o0) (by rfl)) rfl (m_158 o0 g0 hG h32 (fun hq => ?_) (fun hq => ?_))
  · have no6 := hG.2.1.2
    have mn5 := (hG.2.2 (pla (gQ G mn) no n) (by omega)).2
    refine xK_v rfl ?_
    refine xs_f 6 (lv2 := [(3, _), (0, _), (1, _), (2, _)]) r_191_5 rfl ?_
    refine xs_f 7 r_191_6 rfl ?_
    refine xs_f 8 r_191_7 rfl ?_
    refine xs_if 11 15 r_191_8 rfl (fun hc1 => ?_) (fun hc1 => ?_)
    · exact absurd hc1 (nI_m1 rfl (by omega))
    · refine xs_f 16 r_191_15 rfl ?_
      refine xs_f 17 r_191_16 rfl ?_
      refine xs_f 18 r_191_17 rfl ?_
      refine xs_call (lv2 := [(0, _), (1, _), (2, _)]) r_191_18 rfl rfl (by decide) (xcan_0 rfl rfl (by first | assumption | exact o0) (by rfl)) rfl (m_160 o0 g0 hG h32 (i := (pla (gQ G mn) no n)) (by omega) (fun hr => ?_) (fun hr => ?_))
      · refine xK_v rfl ?_
        refine xs_f 23 (lv2 := [(4, _), (3, _), (0, _), (1, _), (2, _)]) r_191_21 rfl ?_
        refine xs_f 24 r_191_23 rfl ?_
        refine xs_f 25 r_191_24 rfl ?_
        refine xs_f 26 r_191_25 rfl ?_
        refine xs_call (lv2 := [(0, _), (1, _)]) r_191_26 rfl rfl (by decide) (xcan_0 rfl rfl (by first | assumption | exact o0) (by rfl)) rfl (m_157 o0 g0 hG h32 (fun hp => ?_) (fun hp => ?_))
        · refine xK_v rfl ?_
          refine xs_f 36 r_191_29 rfl ?_
          refine xs_f 38 r_191_36 rfl ?_
          refine xs_f 39 r_191_38 rfl ?_
          refine xs_if 42 46 r_191_39 rfl (fun hc2 => ?_) (fun hc2 => ?_)
          · exact absurd hc2 (nI_m1 rfl (by omega))
          · refine xs_f 47 r_191_46 rfl ?_
            refine xs_putC 50 r_191_47 rfl o0 (by rfl) (by rfl) (fun f4 o4 y4 => ?_)
            have g5 := g0.fr (y4 _ (by omega))
            have Y6 := (Fr.rf : Fr h.1 h.1 a (a + 1)).tr (y4.wd (by omega) (by omega))
            refine xs_f 51 r_191_50 rfl ?_
            refine xs_get 54 r_191_51 rfl rfl (by first | assumption | exact o4) (by rfl) ?_
            refine xs_f 57 r_191_54 rfl ?_
            refine xs_f 58 r_191_57 rfl ?_
            refine xs_f 60 r_191_58 rfl ?_
            refine xs_call (lv2 := [(0, _), (1, _)]) r_191_60 rfl rfl (by decide) (xcan_1 rfl) rfl ?_
            refine xs_f 3 r_159_0 rfl ?_
            refine xs_f 5 r_159_3 rfl ?_
            refine xs_f 6 r_159_5 rfl ?_
            refine xs_f 7 r_159_6 rfl ?_
            refine xs_f 8 r_159_7 rfl ?_
            refine xs_f 9 r_159_8 rfl ?_
            refine xs_f 10 r_159_9 rfl ?_
            refine xs_f 11 r_159_10 rfl ?_
            refine xs_f 12 r_159_11 rfl ?_
            refine xs_ret r_159_12 rfl ?_
            refine xK_v rfl ?_
            refine xs_f 67 r_191_63 rfl ?_
            refine xs_ret r_191_67 rfl ?_
            refine xK_v rfl ?_
            refine xs_f 8 (lv2 := [(4, _), (0, _), (1, _), (2, _), (3, _)]) r_192_6 rfl ?_
            refine xs_f 10 r_192_8 rfl ?_
            refine xs_f 11 r_192_10 rfl ?_
            refine xs_if 14 18 r_192_11 rfl (fun hc4 => ?_) (fun hc4 => ?_)
            · exact absurd hc4 (nI_m1 (nI_addE (nI_addE (nI_k 138) (nI_mulE (nI_k 25) rfl)) (nI_mulE (nI_k 5) rfl)) (by omega))
            · refine xs_f 19 r_192_18 rfl ?_
              refine xs_get 22 r_192_19 rfl rfl (by first | assumption | exact o4) (by rfl) ?_
              refine xs_f 24 r_192_22 rfl ?_
              refine xs_f 25 r_192_24 rfl ?_
              refine xs_f 26 r_192_25 rfl ?_
              refine xs_aldI 27 r_192_26 (fun _ _ => rfl) rfl rfl rfl (j := (((138 + (25 * (pla (gQ G mn) no n))) + (5 * (rnk (gE G (pla (gQ G mn) no n)) (mn (pla (gQ G mn) no n)) p))) + 2)) (nI_addE (nI_addE (nI_addE (nI_k 138) (nI_mulE (nI_k 25) rfl)) (nI_mulE (nI_k 5) rfl)) (nI_k 2)) g5 (by omega) ?_
              refine xs_ret r_192_27 rfl ?_
              refine xK_v rfl ?_
              refine xs_ret r_194_7 rfl ?_
              first
                | exact mq k ((if_pos hp).trans (if_pos ⟨hq, hr⟩)) o4 Y6
                | exact mq k ((if_pos hp).trans (if_neg (fun z => absurd z.1 (by omega)))) o4 Y6
                | exact mq k ((if_pos hp).trans (if_neg (fun z => absurd z.2 (by show ¬ rnk (gE G (pla (gQ G mn) no n)) (mn (pla (gQ G mn) no n)) p < mn (pla (gQ G mn) no n); omega)))) o4 Y6
                | exact mq k (if_neg hp) o4 Y6
        · refine xK_v rfl ?_
          refine xs_f 32 r_191_29 rfl ?_
          refine xs_f 33 r_191_32 rfl ?_
          refine xs_f 47 r_191_33 rfl ?_
          refine xs_putC 50 r_191_47 rfl o0 (by rfl) (by rfl) (fun f7 o7 y7 => ?_)
          have g8 := g0.fr (y7 _ (by omega))
          have Y9 := (Fr.rf : Fr h.1 h.1 a (a + 1)).tr (y7.wd (by omega) (by omega))
          refine xs_f 51 r_191_50 rfl ?_
          refine xs_get 54 r_191_51 rfl rfl (by first | assumption | exact o7) (by rfl) ?_
          refine xs_f 66 r_191_54 rfl ?_
          refine xs_f 67 r_191_66 rfl ?_
          refine xs_ret r_191_67 rfl ?_
          refine xK_v rfl ?_
          refine xs_f 8 (lv2 := [(4, _), (0, _), (1, _), (2, _), (3, _)]) r_192_6 rfl ?_
          refine xs_f 10 r_192_8 rfl ?_
          refine xs_f 11 r_192_10 rfl ?_
          refine xs_f 14 r_192_11 rfl ?_
          refine xs_f 15 r_192_14 rfl ?_
          refine xs_f 27 r_192_15 rfl ?_
          refine xs_ret r_192_27 rfl ?_
          refine xK_v rfl ?_
          refine xs_ret r_194_7 rfl ?_
          first
            | exact mq k ((if_pos hp).trans (if_pos ⟨hq, hr⟩)) o7 Y9
            | exact mq k ((if_pos hp).trans (if_neg (fun z => absurd z.1 (by omega)))) o7 Y9
            | exact mq k ((if_pos hp).trans (if_neg (fun z => absurd z.2 (by show ¬ rnk (gE G (pla (gQ G mn) no n)) (mn (pla (gQ G mn) no n)) p < mn (pla (gQ G mn) no n); omega)))) o7 Y9
            | exact mq k (if_neg hp) o7 Y9
      · refine xK_v rfl ?_
        refine xs_f 23 (lv2 := [(4, _), (3, _), (0, _), (1, _), (2, _)]) r_191_21 rfl ?_
        refine xs_f 24 r_191_23 rfl ?_
        refine xs_f 25 r_191_24 rfl ?_
        refine xs_f 26 r_191_25 rfl ?_
        refine xs_call (lv2 := [(0, _), (1, _)]) r_191_26 rfl rfl (by decide) (xcan_0 rfl rfl (by first | assumption | exact o0) (by rfl)) rfl (m_157 o0 g0 hG h32 (fun hp => ?_) (fun hp => ?_))
        · refine xK_v rfl ?_
          refine xs_f 36 r_191_29 rfl ?_
          refine xs_f 38 r_191_36 rfl ?_
          refine xs_f 39 r_191_38 rfl ?_
          refine xs_f 42 r_191_39 rfl ?_
          refine xs_f 43 r_191_42 rfl ?_
          refine xs_f 47 r_191_43 rfl ?_
          refine xs_putC 50 r_191_47 rfl o0 (by rfl) (by rfl) (fun f11 o11 y11 => ?_)
          have g12 := g0.fr (y11 _ (by omega))
          have Y13 := (Fr.rf : Fr h.1 h.1 a (a + 1)).tr (y11.wd (by omega) (by omega))
          refine xs_f 51 r_191_50 rfl ?_
          refine xs_get 54 r_191_51 rfl rfl (by first | assumption | exact o11) (by rfl) ?_
          refine xs_f 66 r_191_54 rfl ?_
          refine xs_f 67 r_191_66 rfl ?_
          refine xs_ret r_191_67 rfl ?_
          refine xK_v rfl ?_
          refine xs_f 8 (lv2 := [(4, _), (0, _), (1, _), (2, _), (3, _)]) r_192_6 rfl ?_
          refine xs_f 10 r_192_8 rfl ?_
          refine xs_f 11 r_192_10 rfl ?_
          refine xs_f 14 r_192_11 rfl ?_
          refine xs_f 15 r_192_14 rfl ?_
          refine xs_f 27 r_192_15 rfl ?_
          refine xs_ret r_192_27 rfl ?_
          refine xK_v rfl ?_
          refine xs_ret r_194_7 rfl ?_
          first
            | exact mq k ((if_pos hp).trans (if_pos ⟨hq, hr⟩)) o11 Y13
            | exact mq k ((if_pos hp).trans (if_neg (fun z => absurd z.1 (by omega)))) o11 Y13
            | exact mq k ((if_pos hp).trans (if_neg (fun z => absurd z.2 (by show ¬ rnk (gE G (pla (gQ G mn) no n)) (mn (pla (gQ G mn) no n)) p < mn (pla (gQ G mn) no n); omega)))) o11 Y13
            | exact mq k (if_neg hp) o11 Y13
        · refine xK_v rfl ?_
          refine xs_f 32 r_191_29 rfl ?_
          refine xs_f 33 r_191_32 rfl ?_
          refine xs_f 47 r_191_33 rfl ?_
          refine xs_putC 50 r_191_47 rfl o0 (by rfl) (by rfl) (fun f14 o14 y14 => ?_)
          have g15 := g0.fr (y14 _ (by omega))
          have Y16 := (Fr.rf : Fr h.1 h.1 a (a + 1)).tr (y14.wd (by omega) (by omega))
          refine xs_f 51 r_191_50 rfl ?_
          refine xs_get 54 r_191_51 rfl rfl (by first | assumption | exact o14) (by rfl) ?_
          refine xs_f 66 r_191_54 rfl ?_
          refine xs_f 67 r_191_66 rfl ?_
          refine xs_ret r_191_67 rfl ?_
          refine xK_v rfl ?_
          refine xs_f 8 (lv2 := [(4, _), (0, _), (1, _), (2, _), (3, _)]) r_192_6 rfl ?_
          refine xs_f 10 r_192_8 rfl ?_
          refine xs_f 11 r_192_10 rfl ?_
          refine xs_f 14 r_192_11 rfl ?_
          refine xs_f 15 r_192_14 rfl ?_
          refine xs_f 27 r_192_15 rfl ?_
          refine xs_ret r_192_27 rfl ?_
          refine xK_v rfl ?_
          refine xs_ret r_194_7 rfl ?_
          first
            | exact mq k ((if_pos hp).trans (if_pos ⟨hq, hr⟩)) o14 Y16
            | exact mq k ((if_pos hp).trans (if_neg (fun z => absurd z.1 (by omega)))) o14 Y16
            | exact mq k ((if_pos hp).trans (if_neg (fun z => absurd z.2 (by show ¬ rnk (gE G (pla (gQ G mn) no n)) (mn (pla (gQ G mn) no n)) p < mn (pla (gQ G mn) no n); omega)))) o14 Y16
            | exact mq k (if_neg hp) o14 Y16
  · refine xK_v rfl ?_
    refine xs_f 6 (lv2 := [(3, _), (0, _), (1, _), (2, _)]) r_191_5 rfl ?_
    refine xs_f 7 r_191_6 rfl ?_
    refine xs_f 8 r_191_7 rfl ?_
    refine xs_f 11 r_191_8 rfl ?_
    refine xs_f 12 r_191_11 rfl ?_
    refine xs_f 21 r_191_12 rfl ?_
    refine xs_f 23 (lv2 := [(4, _), (3, _), (0, _), (1, _), (2, _)]) r_191_21 rfl ?_
    refine xs_f 24 r_191_23 rfl ?_
    refine xs_f 25 r_191_24 rfl ?_
    refine xs_f 26 r_191_25 rfl ?_
    refine xs_call (lv2 := [(0, _), (1, _)]) r_191_26 rfl rfl (by decide) (xcan_0 rfl rfl (by first | assumption | exact o0) (by rfl)) rfl (m_157 o0 g0 hG h32 (fun hp => ?_) (fun hp => ?_))
    · refine xK_v rfl ?_
      refine xs_f 36 r_191_29 rfl ?_
      refine xs_f 38 r_191_36 rfl ?_
      refine xs_f 39 r_191_38 rfl ?_
      refine xs_f 42 r_191_39 rfl ?_
      refine xs_f 43 r_191_42 rfl ?_
      refine xs_f 47 r_191_43 rfl ?_
      refine xs_putC 50 r_191_47 rfl o0 (by rfl) (by rfl) (fun f18 o18 y18 => ?_)
      have g19 := g0.fr (y18 _ (by omega))
      have Y20 := (Fr.rf : Fr h.1 h.1 a (a + 1)).tr (y18.wd (by omega) (by omega))
      refine xs_f 51 r_191_50 rfl ?_
      refine xs_get 54 r_191_51 rfl rfl (by first | assumption | exact o18) (by rfl) ?_
      refine xs_f 66 r_191_54 rfl ?_
      refine xs_f 67 r_191_66 rfl ?_
      refine xs_ret r_191_67 rfl ?_
      refine xK_v rfl ?_
      refine xs_f 8 (lv2 := [(4, _), (0, _), (1, _), (2, _), (3, _)]) r_192_6 rfl ?_
      refine xs_f 10 r_192_8 rfl ?_
      refine xs_f 11 r_192_10 rfl ?_
      refine xs_f 14 r_192_11 rfl ?_
      refine xs_f 15 r_192_14 rfl ?_
      refine xs_f 27 r_192_15 rfl ?_
      refine xs_ret r_192_27 rfl ?_
      refine xK_v rfl ?_
      refine xs_ret r_194_7 rfl ?_
      first
        | exact mq k ((if_pos hp).trans (if_pos ⟨hq, hr⟩)) o18 Y20
        | exact mq k ((if_pos hp).trans (if_neg (fun z => absurd z.1 (by omega)))) o18 Y20
        | exact mq k ((if_pos hp).trans (if_neg (fun z => absurd z.2 (by show ¬ rnk (gE G (pla (gQ G mn) no n)) (mn (pla (gQ G mn) no n)) p < mn (pla (gQ G mn) no n); omega)))) o18 Y20
        | exact mq k (if_neg hp) o18 Y20
    · refine xK_v rfl ?_
      refine xs_f 32 r_191_29 rfl ?_
      refine xs_f 33 r_191_32 rfl ?_
      refine xs_f 47 r_191_33 rfl ?_
      refine xs_putC 50 r_191_47 rfl o0 (by rfl) (by rfl) (fun f21 o21 y21 => ?_)
      have g22 := g0.fr (y21 _ (by omega))
      have Y23 := (Fr.rf : Fr h.1 h.1 a (a + 1)).tr (y21.wd (by omega) (by omega))
      refine xs_f 51 r_191_50 rfl ?_
      refine xs_get 54 r_191_51 rfl rfl (by first | assumption | exact o21) (by rfl) ?_
      refine xs_f 66 r_191_54 rfl ?_
      refine xs_f 67 r_191_66 rfl ?_
      refine xs_ret r_191_67 rfl ?_
      refine xK_v rfl ?_
      refine xs_f 8 (lv2 := [(4, _), (0, _), (1, _), (2, _), (3, _)]) r_192_6 rfl ?_
      refine xs_f 10 r_192_8 rfl ?_
      refine xs_f 11 r_192_10 rfl ?_
      refine xs_f 14 r_192_11 rfl ?_
      refine xs_f 15 r_192_14 rfl ?_
      refine xs_f 27 r_192_15 rfl ?_
      refine xs_ret r_192_27 rfl ?_
      refine xK_v rfl ?_
      refine xs_ret r_194_7 rfl ?_
      first
        | exact mq k ((if_pos hp).trans (if_pos ⟨hq, hr⟩)) o21 Y23
        | exact mq k ((if_pos hp).trans (if_neg (fun z => absurd z.1 (by omega)))) o21 Y23
        | exact mq k ((if_pos hp).trans (if_neg (fun z => absurd z.2 (by show ¬ rnk (gE G (pla (gQ G mn) no n)) (mn (pla (gQ G mn) no n)) p < mn (pla (gQ G mn) no n); omega)))) o21 Y23
        | exact mq k (if_neg hp) o21 Y23

theorem m_195 {S : XSc} {d : Nat} {h : XH} {Q : XO → XH → Prop} {a : Nat} {G : Nat → Int32} {np no : Nat} {mn : Nat → Nat} {ch sv ty ea fa ol th sp wr : Int32} (o0 : h.1 a = some (.inr (9, mO a ch sv ty ea fa ol th sp wr))) (g0 : IA h.1 0 (a + 1) 288 G) (hG : WG G np no mn) (h32 : 32 ≤ a) {p n : Int32} (k : ∀ f, f a = some (.inr (9, mO a ch sv ty ea fa ol (nI (R_fld np (gQ G mn) no p n (fun e => e.2.2.2.1)).1) sp wr)) → Fr h.1 f a (a + 1) → Q (.inl (some (.int (R_fld np (gQ G mn) no p n (fun e => e.2.2.2.1)).2))) (f, h.2)) : xP S (d + 4) 195 0 [(0, .ref a), (1, .int p), (2, .int n)] [] h Q := by
  refine xs_f 1 r_195_0 rfl ?_
  refine xs_f 2 r_195_1 rfl ?_
  refine xs_f 3 r_195_2 rfl ?_
  refine xs_f 4 r_195_3 rfl ?_
  refine xs_call (lv2 := [(0, _), (1, _), (2, _), (3, _)]) r_195_4 rfl rfl (by decide) (xcan_0 rfl rfl (by first | assumption | exact o0) (by rfl)) rfl ?_
  refine xs_f 1 r_192_0 rfl ?_
  refine xs_f 2 r_192_1 rfl ?_
  refine xs_f 3 r_192_2 rfl ?_
  refine xs_call (lv2 := [(0, _), (1, _), (2, _)]) r_192_3 rfl rfl (by decide) (xcan_0 rfl rfl (by first | assumption | exact o0) (by rfl)) rfl ?_
  refine xs_f 1 r_191_0 rfl ?_
  refine xs_f 2 r_191_1 rfl ?_
  refine xs_call (lv2 := [(0, _), (1, _)]) r_191_2 rfl rfl (by decide) (xcan_0 rfl rfl (by first | assumption | exact o0) (by rfl)) rfl (m_158 o0 g0 hG h32 (fun hq => ?_) (fun hq => ?_))
  · have no6 := hG.2.1.2
    have mn5 := (hG.2.2 (pla (gQ G mn) no n) (by omega)).2
    refine xK_v rfl ?_
    refine xs_f 6 (lv2 := [(3, _), (0, _), (1, _), (2, _)]) r_191_5 rfl ?_
    refine xs_f 7 r_191_6 rfl ?_
    refine xs_f 8 r_191_7 rfl ?_
    refine xs_if 11 15 r_191_8 rfl (fun hc1 => ?_) (fun hc1 => ?_)
    · exact absurd hc1 (nI_m1 rfl (by omega))
    · refine xs_f 16 r_191_15 rfl ?_
      refine xs_f 17 r_191_16 rfl ?_
      refine xs_f 18 r_191_17 rfl ?_
      refine xs_call (lv2 := [(0, _), (1, _), (2, _)]) r_191_18 rfl rfl (by decide) (xcan_0 rfl rfl (by first | assumption | exact o0) (by rfl)) rfl (m_160 o0 g0 hG h32 (i := (pla (gQ G mn) no n)) (by omega) (fun hr => ?_) (fun hr => ?_))
      · refine xK_v rfl ?_
        refine xs_f 23 (lv2 := [(4, _), (3, _), (0, _), (1, _), (2, _)]) r_191_21 rfl ?_
        refine xs_f 24 r_191_23 rfl ?_
        refine xs_f 25 r_191_24 rfl ?_
        refine xs_f 26 r_191_25 rfl ?_
        refine xs_call (lv2 := [(0, _), (1, _)]) r_191_26 rfl rfl (by decide) (xcan_0 rfl rfl (by first | assumption | exact o0) (by rfl)) rfl (m_157 o0 g0 hG h32 (fun hp => ?_) (fun hp => ?_))
        · refine xK_v rfl ?_
          refine xs_f 36 r_191_29 rfl ?_
          refine xs_f 38 r_191_36 rfl ?_
          refine xs_f 39 r_191_38 rfl ?_
          refine xs_if 42 46 r_191_39 rfl (fun hc2 => ?_) (fun hc2 => ?_)
          · exact absurd hc2 (nI_m1 rfl (by omega))
          · refine xs_f 47 r_191_46 rfl ?_
            refine xs_putC 50 r_191_47 rfl o0 (by rfl) (by rfl) (fun f4 o4 y4 => ?_)
            have g5 := g0.fr (y4 _ (by omega))
            have Y6 := (Fr.rf : Fr h.1 h.1 a (a + 1)).tr (y4.wd (by omega) (by omega))
            refine xs_f 51 r_191_50 rfl ?_
            refine xs_get 54 r_191_51 rfl rfl (by first | assumption | exact o4) (by rfl) ?_
            refine xs_f 57 r_191_54 rfl ?_
            refine xs_f 58 r_191_57 rfl ?_
            refine xs_f 60 r_191_58 rfl ?_
            refine xs_call (lv2 := [(0, _), (1, _)]) r_191_60 rfl rfl (by decide) (xcan_1 rfl) rfl ?_
            refine xs_f 3 r_159_0 rfl ?_
            refine xs_f 5 r_159_3 rfl ?_
            refine xs_f 6 r_159_5 rfl ?_
            refine xs_f 7 r_159_6 rfl ?_
            refine xs_f 8 r_159_7 rfl ?_
            refine xs_f 9 r_159_8 rfl ?_
            refine xs_f 10 r_159_9 rfl ?_
            refine xs_f 11 r_159_10 rfl ?_
            refine xs_f 12 r_159_11 rfl ?_
            refine xs_ret r_159_12 rfl ?_
            refine xK_v rfl ?_
            refine xs_f 67 r_191_63 rfl ?_
            refine xs_ret r_191_67 rfl ?_
            refine xK_v rfl ?_
            refine xs_f 8 (lv2 := [(4, _), (0, _), (1, _), (2, _), (3, _)]) r_192_6 rfl ?_
            refine xs_f 10 r_192_8 rfl ?_
            refine xs_f 11 r_192_10 rfl ?_
            refine xs_if 14 18 r_192_11 rfl (fun hc4 => ?_) (fun hc4 => ?_)
            · exact absurd hc4 (nI_m1 (nI_addE (nI_addE (nI_k 138) (nI_mulE (nI_k 25) rfl)) (nI_mulE (nI_k 5) rfl)) (by omega))
            · refine xs_f 19 r_192_18 rfl ?_
              refine xs_get 22 r_192_19 rfl rfl (by first | assumption | exact o4) (by rfl) ?_
              refine xs_f 24 r_192_22 rfl ?_
              refine xs_f 25 r_192_24 rfl ?_
              refine xs_f 26 r_192_25 rfl ?_
              refine xs_aldI 27 r_192_26 (fun _ _ => rfl) rfl rfl rfl (j := (((138 + (25 * (pla (gQ G mn) no n))) + (5 * (rnk (gE G (pla (gQ G mn) no n)) (mn (pla (gQ G mn) no n)) p))) + 3)) (nI_addE (nI_addE (nI_addE (nI_k 138) (nI_mulE (nI_k 25) rfl)) (nI_mulE (nI_k 5) rfl)) (nI_k 3)) g5 (by omega) ?_
              refine xs_ret r_192_27 rfl ?_
              refine xK_v rfl ?_
              refine xs_ret r_195_7 rfl ?_
              first
                | exact mq k ((if_pos hp).trans (if_pos ⟨hq, hr⟩)) o4 Y6
                | exact mq k ((if_pos hp).trans (if_neg (fun z => absurd z.1 (by omega)))) o4 Y6
                | exact mq k ((if_pos hp).trans (if_neg (fun z => absurd z.2 (by show ¬ rnk (gE G (pla (gQ G mn) no n)) (mn (pla (gQ G mn) no n)) p < mn (pla (gQ G mn) no n); omega)))) o4 Y6
                | exact mq k (if_neg hp) o4 Y6
        · refine xK_v rfl ?_
          refine xs_f 32 r_191_29 rfl ?_
          refine xs_f 33 r_191_32 rfl ?_
          refine xs_f 47 r_191_33 rfl ?_
          refine xs_putC 50 r_191_47 rfl o0 (by rfl) (by rfl) (fun f7 o7 y7 => ?_)
          have g8 := g0.fr (y7 _ (by omega))
          have Y9 := (Fr.rf : Fr h.1 h.1 a (a + 1)).tr (y7.wd (by omega) (by omega))
          refine xs_f 51 r_191_50 rfl ?_
          refine xs_get 54 r_191_51 rfl rfl (by first | assumption | exact o7) (by rfl) ?_
          refine xs_f 66 r_191_54 rfl ?_
          refine xs_f 67 r_191_66 rfl ?_
          refine xs_ret r_191_67 rfl ?_
          refine xK_v rfl ?_
          refine xs_f 8 (lv2 := [(4, _), (0, _), (1, _), (2, _), (3, _)]) r_192_6 rfl ?_
          refine xs_f 10 r_192_8 rfl ?_
          refine xs_f 11 r_192_10 rfl ?_
          refine xs_f 14 r_192_11 rfl ?_
          refine xs_f 15 r_192_14 rfl ?_
          refine xs_f 27 r_192_15 rfl ?_
          refine xs_ret r_192_27 rfl ?_
          refine xK_v rfl ?_
          refine xs_ret r_195_7 rfl ?_
          first
            | exact mq k ((if_pos hp).trans (if_pos ⟨hq, hr⟩)) o7 Y9
            | exact mq k ((if_pos hp).trans (if_neg (fun z => absurd z.1 (by omega)))) o7 Y9
            | exact mq k ((if_pos hp).trans (if_neg (fun z => absurd z.2 (by show ¬ rnk (gE G (pla (gQ G mn) no n)) (mn (pla (gQ G mn) no n)) p < mn (pla (gQ G mn) no n); omega)))) o7 Y9
            | exact mq k (if_neg hp) o7 Y9
      · refine xK_v rfl ?_
        refine xs_f 23 (lv2 := [(4, _), (3, _), (0, _), (1, _), (2, _)]) r_191_21 rfl ?_
        refine xs_f 24 r_191_23 rfl ?_
        refine xs_f 25 r_191_24 rfl ?_
        refine xs_f 26 r_191_25 rfl ?_
        refine xs_call (lv2 := [(0, _), (1, _)]) r_191_26 rfl rfl (by decide) (xcan_0 rfl rfl (by first | assumption | exact o0) (by rfl)) rfl (m_157 o0 g0 hG h32 (fun hp => ?_) (fun hp => ?_))
        · refine xK_v rfl ?_
          refine xs_f 36 r_191_29 rfl ?_
          refine xs_f 38 r_191_36 rfl ?_
          refine xs_f 39 r_191_38 rfl ?_
          refine xs_f 42 r_191_39 rfl ?_
          refine xs_f 43 r_191_42 rfl ?_
          refine xs_f 47 r_191_43 rfl ?_
          refine xs_putC 50 r_191_47 rfl o0 (by rfl) (by rfl) (fun f11 o11 y11 => ?_)
          have g12 := g0.fr (y11 _ (by omega))
          have Y13 := (Fr.rf : Fr h.1 h.1 a (a + 1)).tr (y11.wd (by omega) (by omega))
          refine xs_f 51 r_191_50 rfl ?_
          refine xs_get 54 r_191_51 rfl rfl (by first | assumption | exact o11) (by rfl) ?_
          refine xs_f 66 r_191_54 rfl ?_
          refine xs_f 67 r_191_66 rfl ?_
          refine xs_ret r_191_67 rfl ?_
          refine xK_v rfl ?_
          refine xs_f 8 (lv2 := [(4, _), (0, _), (1, _), (2, _), (3, _)]) r_192_6 rfl ?_
          refine xs_f 10 r_192_8 rfl ?_
          refine xs_f 11 r_192_10 rfl ?_
          refine xs_f 14 r_192_11 rfl ?_
          refine xs_f 15 r_192_14 rfl ?_
          refine xs_f 27 r_192_15 rfl ?_
          refine xs_ret r_192_27 rfl ?_
          refine xK_v rfl ?_
          refine xs_ret r_195_7 rfl ?_
          first
            | exact mq k ((if_pos hp).trans (if_pos ⟨hq, hr⟩)) o11 Y13
            | exact mq k ((if_pos hp).trans (if_neg (fun z => absurd z.1 (by omega)))) o11 Y13
            | exact mq k ((if_pos hp).trans (if_neg (fun z => absurd z.2 (by show ¬ rnk (gE G (pla (gQ G mn) no n)) (mn (pla (gQ G mn) no n)) p < mn (pla (gQ G mn) no n); omega)))) o11 Y13
            | exact mq k (if_neg hp) o11 Y13
        · refine xK_v rfl ?_
          refine xs_f 32 r_191_29 rfl ?_
          refine xs_f 33 r_191_32 rfl ?_
          refine xs_f 47 r_191_33 rfl ?_
          refine xs_putC 50 r_191_47 rfl o0 (by rfl) (by rfl) (fun f14 o14 y14 => ?_)
          have g15 := g0.fr (y14 _ (by omega))
          have Y16 := (Fr.rf : Fr h.1 h.1 a (a + 1)).tr (y14.wd (by omega) (by omega))
          refine xs_f 51 r_191_50 rfl ?_
          refine xs_get 54 r_191_51 rfl rfl (by first | assumption | exact o14) (by rfl) ?_
          refine xs_f 66 r_191_54 rfl ?_
          refine xs_f 67 r_191_66 rfl ?_
          refine xs_ret r_191_67 rfl ?_
          refine xK_v rfl ?_
          refine xs_f 8 (lv2 := [(4, _), (0, _), (1, _), (2, _), (3, _)]) r_192_6 rfl ?_
          refine xs_f 10 r_192_8 rfl ?_
          refine xs_f 11 r_192_10 rfl ?_
          refine xs_f 14 r_192_11 rfl ?_
          refine xs_f 15 r_192_14 rfl ?_
          refine xs_f 27 r_192_15 rfl ?_
          refine xs_ret r_192_27 rfl ?_
          refine xK_v rfl ?_
          refine xs_ret r_195_7 rfl ?_
          first
            | exact mq k ((if_pos hp).trans (if_pos ⟨hq, hr⟩)) o14 Y16
            | exact mq k ((if_pos hp).trans (if_neg (fun z => absurd z.1 (by omega)))) o14 Y16
            | exact mq k ((if_pos hp).trans (if_neg (fun z => absurd z.2 (by show ¬ rnk (gE G (pla (gQ G mn) no n)) (mn (pla (gQ G mn) no n)) p < mn (pla (gQ G mn) no n); omega)))) o14 Y16
            | exact mq k (if_neg hp) o14 Y16
  · refine xK_v rfl ?_
    refine xs_f 6 (lv2 := [(3, _), (0, _), (1, _), (2, _)]) r_191_5 rfl ?_
    refine xs_f 7 r_191_6 rfl ?_
    refine xs_f 8 r_191_7 rfl ?_
    refine xs_f 11 r_191_8 rfl ?_
    refine xs_f 12 r_191_11 rfl ?_
    refine xs_f 21 r_191_12 rfl ?_
    refine xs_f 23 (lv2 := [(4, _), (3, _), (0, _), (1, _), (2, _)]) r_191_21 rfl ?_
    refine xs_f 24 r_191_23 rfl ?_
    refine xs_f 25 r_191_24 rfl ?_
    refine xs_f 26 r_191_25 rfl ?_
    refine xs_call (lv2 := [(0, _), (1, _)]) r_191_26 rfl rfl (by decide) (xcan_0 rfl rfl (by first | assumption | exact o0) (by rfl)) rfl (m_157 o0 g0 hG h32 (fun hp => ?_) (fun hp => ?_))
    · refine xK_v rfl ?_
      refine xs_f 36 r_191_29 rfl ?_
      refine xs_f 38 r_191_36 rfl ?_
      refine xs_f 39 r_191_38 rfl ?_
      refine xs_f 42 r_191_39 rfl ?_
      refine xs_f 43 r_191_42 rfl ?_
      refine xs_f 47 r_191_43 rfl ?_
      refine xs_putC 50 r_191_47 rfl o0 (by rfl) (by rfl) (fun f18 o18 y18 => ?_)
      have g19 := g0.fr (y18 _ (by omega))
      have Y20 := (Fr.rf : Fr h.1 h.1 a (a + 1)).tr (y18.wd (by omega) (by omega))
      refine xs_f 51 r_191_50 rfl ?_
      refine xs_get 54 r_191_51 rfl rfl (by first | assumption | exact o18) (by rfl) ?_
      refine xs_f 66 r_191_54 rfl ?_
      refine xs_f 67 r_191_66 rfl ?_
      refine xs_ret r_191_67 rfl ?_
      refine xK_v rfl ?_
      refine xs_f 8 (lv2 := [(4, _), (0, _), (1, _), (2, _), (3, _)]) r_192_6 rfl ?_
      refine xs_f 10 r_192_8 rfl ?_
      refine xs_f 11 r_192_10 rfl ?_
      refine xs_f 14 r_192_11 rfl ?_
      refine xs_f 15 r_192_14 rfl ?_
      refine xs_f 27 r_192_15 rfl ?_
      refine xs_ret r_192_27 rfl ?_
      refine xK_v rfl ?_
      refine xs_ret r_195_7 rfl ?_
      first
        | exact mq k ((if_pos hp).trans (if_pos ⟨hq, hr⟩)) o18 Y20
        | exact mq k ((if_pos hp).trans (if_neg (fun z => absurd z.1 (by omega)))) o18 Y20
        | exact mq k ((if_pos hp).trans (if_neg (fun z => absurd z.2 (by show ¬ rnk (gE G (pla (gQ G mn) no n)) (mn (pla (gQ G mn) no n)) p < mn (pla (gQ G mn) no n); omega)))) o18 Y20
        | exact mq k (if_neg hp) o18 Y20
    · refine xK_v rfl ?_
      refine xs_f 32 r_191_29 rfl ?_
      refine xs_f 33 r_191_32 rfl ?_
      refine xs_f 47 r_191_33 rfl ?_
      refine xs_putC 50 r_191_47 rfl o0 (by rfl) (by rfl) (fun f21 o21 y21 => ?_)
      have g22 := g0.fr (y21 _ (by omega))
      have Y23 := (Fr.rf : Fr h.1 h.1 a (a + 1)).tr (y21.wd (by omega) (by omega))
      refine xs_f 51 r_191_50 rfl ?_
      refine xs_get 54 r_191_51 rfl rfl (by first | assumption | exact o21) (by rfl) ?_
      refine xs_f 66 r_191_54 rfl ?_
      refine xs_f 67 r_191_66 rfl ?_
      refine xs_ret r_191_67 rfl ?_
      refine xK_v rfl ?_
      refine xs_f 8 (lv2 := [(4, _), (0, _), (1, _), (2, _), (3, _)]) r_192_6 rfl ?_
      refine xs_f 10 r_192_8 rfl ?_
      refine xs_f 11 r_192_10 rfl ?_
      refine xs_f 14 r_192_11 rfl ?_
      refine xs_f 15 r_192_14 rfl ?_
      refine xs_f 27 r_192_15 rfl ?_
      refine xs_ret r_192_27 rfl ?_
      refine xK_v rfl ?_
      refine xs_ret r_195_7 rfl ?_
      first
        | exact mq k ((if_pos hp).trans (if_pos ⟨hq, hr⟩)) o21 Y23
        | exact mq k ((if_pos hp).trans (if_neg (fun z => absurd z.1 (by omega)))) o21 Y23
        | exact mq k ((if_pos hp).trans (if_neg (fun z => absurd z.2 (by show ¬ rnk (gE G (pla (gQ G mn) no n)) (mn (pla (gQ G mn) no n)) p < mn (pla (gQ G mn) no n); omega)))) o21 Y23
        | exact mq k (if_neg hp) o21 Y23

theorem m_196 {S : XSc} {d : Nat} {h : XH} {Q : XO → XH → Prop} {a : Nat} {G : Nat → Int32} {np no : Nat} {mn : Nat → Nat} {ch sv ty ea fa ol th sp wr : Int32} (o0 : h.1 a = some (.inr (9, mO a ch sv ty ea fa ol th sp wr))) (g0 : IA h.1 0 (a + 1) 288 G) (hG : WG G np no mn) (h32 : 32 ≤ a) {p n : Int32} (k : ∀ f, f a = some (.inr (9, mO a ch sv ty ea fa ol (nI (R_fld np (gQ G mn) no p n (fun e => e.2.2.2.2)).1) sp wr)) → Fr h.1 f a (a + 1) → Q (.inl (some (.int (R_fld np (gQ G mn) no p n (fun e => e.2.2.2.2)).2))) (f, h.2)) : xP S (d + 4) 196 0 [(0, .ref a), (1, .int p), (2, .int n)] [] h Q := by
  refine xs_f 1 r_196_0 rfl ?_
  refine xs_f 2 r_196_1 rfl ?_
  refine xs_f 3 r_196_2 rfl ?_
  refine xs_f 4 r_196_3 rfl ?_
  refine xs_call (lv2 := [(0, _), (1, _), (2, _), (3, _)]) r_196_4 rfl rfl (by decide) (xcan_0 rfl rfl (by first | assumption | exact o0) (by rfl)) rfl ?_
  refine xs_f 1 r_192_0 rfl ?_
  refine xs_f 2 r_192_1 rfl ?_
  refine xs_f 3 r_192_2 rfl ?_
  refine xs_call (lv2 := [(0, _), (1, _), (2, _)]) r_192_3 rfl rfl (by decide) (xcan_0 rfl rfl (by first | assumption | exact o0) (by rfl)) rfl ?_
  refine xs_f 1 r_191_0 rfl ?_
  refine xs_f 2 r_191_1 rfl ?_
  refine xs_call (lv2 := [(0, _), (1, _)]) r_191_2 rfl rfl (by decide) (xcan_0 rfl rfl (by first | assumption | exact o0) (by rfl)) rfl (m_158 o0 g0 hG h32 (fun hq => ?_) (fun hq => ?_))
  · have no6 := hG.2.1.2
    have mn5 := (hG.2.2 (pla (gQ G mn) no n) (by omega)).2
    refine xK_v rfl ?_
    refine xs_f 6 (lv2 := [(3, _), (0, _), (1, _), (2, _)]) r_191_5 rfl ?_
    refine xs_f 7 r_191_6 rfl ?_
    refine xs_f 8 r_191_7 rfl ?_
    refine xs_if 11 15 r_191_8 rfl (fun hc1 => ?_) (fun hc1 => ?_)
    · exact absurd hc1 (nI_m1 rfl (by omega))
    · refine xs_f 16 r_191_15 rfl ?_
      refine xs_f 17 r_191_16 rfl ?_
      refine xs_f 18 r_191_17 rfl ?_
      refine xs_call (lv2 := [(0, _), (1, _), (2, _)]) r_191_18 rfl rfl (by decide) (xcan_0 rfl rfl (by first | assumption | exact o0) (by rfl)) rfl (m_160 o0 g0 hG h32 (i := (pla (gQ G mn) no n)) (by omega) (fun hr => ?_) (fun hr => ?_))
      · refine xK_v rfl ?_
        refine xs_f 23 (lv2 := [(4, _), (3, _), (0, _), (1, _), (2, _)]) r_191_21 rfl ?_
        refine xs_f 24 r_191_23 rfl ?_
        refine xs_f 25 r_191_24 rfl ?_
        refine xs_f 26 r_191_25 rfl ?_
        refine xs_call (lv2 := [(0, _), (1, _)]) r_191_26 rfl rfl (by decide) (xcan_0 rfl rfl (by first | assumption | exact o0) (by rfl)) rfl (m_157 o0 g0 hG h32 (fun hp => ?_) (fun hp => ?_))
        · refine xK_v rfl ?_
          refine xs_f 36 r_191_29 rfl ?_
          refine xs_f 38 r_191_36 rfl ?_
          refine xs_f 39 r_191_38 rfl ?_
          refine xs_if 42 46 r_191_39 rfl (fun hc2 => ?_) (fun hc2 => ?_)
          · exact absurd hc2 (nI_m1 rfl (by omega))
          · refine xs_f 47 r_191_46 rfl ?_
            refine xs_putC 50 r_191_47 rfl o0 (by rfl) (by rfl) (fun f4 o4 y4 => ?_)
            have g5 := g0.fr (y4 _ (by omega))
            have Y6 := (Fr.rf : Fr h.1 h.1 a (a + 1)).tr (y4.wd (by omega) (by omega))
            refine xs_f 51 r_191_50 rfl ?_
            refine xs_get 54 r_191_51 rfl rfl (by first | assumption | exact o4) (by rfl) ?_
            refine xs_f 57 r_191_54 rfl ?_
            refine xs_f 58 r_191_57 rfl ?_
            refine xs_f 60 r_191_58 rfl ?_
            refine xs_call (lv2 := [(0, _), (1, _)]) r_191_60 rfl rfl (by decide) (xcan_1 rfl) rfl ?_
            refine xs_f 3 r_159_0 rfl ?_
            refine xs_f 5 r_159_3 rfl ?_
            refine xs_f 6 r_159_5 rfl ?_
            refine xs_f 7 r_159_6 rfl ?_
            refine xs_f 8 r_159_7 rfl ?_
            refine xs_f 9 r_159_8 rfl ?_
            refine xs_f 10 r_159_9 rfl ?_
            refine xs_f 11 r_159_10 rfl ?_
            refine xs_f 12 r_159_11 rfl ?_
            refine xs_ret r_159_12 rfl ?_
            refine xK_v rfl ?_
            refine xs_f 67 r_191_63 rfl ?_
            refine xs_ret r_191_67 rfl ?_
            refine xK_v rfl ?_
            refine xs_f 8 (lv2 := [(4, _), (0, _), (1, _), (2, _), (3, _)]) r_192_6 rfl ?_
            refine xs_f 10 r_192_8 rfl ?_
            refine xs_f 11 r_192_10 rfl ?_
            refine xs_if 14 18 r_192_11 rfl (fun hc4 => ?_) (fun hc4 => ?_)
            · exact absurd hc4 (nI_m1 (nI_addE (nI_addE (nI_k 138) (nI_mulE (nI_k 25) rfl)) (nI_mulE (nI_k 5) rfl)) (by omega))
            · refine xs_f 19 r_192_18 rfl ?_
              refine xs_get 22 r_192_19 rfl rfl (by first | assumption | exact o4) (by rfl) ?_
              refine xs_f 24 r_192_22 rfl ?_
              refine xs_f 25 r_192_24 rfl ?_
              refine xs_f 26 r_192_25 rfl ?_
              refine xs_aldI 27 r_192_26 (fun _ _ => rfl) rfl rfl rfl (j := (((138 + (25 * (pla (gQ G mn) no n))) + (5 * (rnk (gE G (pla (gQ G mn) no n)) (mn (pla (gQ G mn) no n)) p))) + 4)) (nI_addE (nI_addE (nI_addE (nI_k 138) (nI_mulE (nI_k 25) rfl)) (nI_mulE (nI_k 5) rfl)) (nI_k 4)) g5 (by omega) ?_
              refine xs_ret r_192_27 rfl ?_
              refine xK_v rfl ?_
              refine xs_ret r_196_7 rfl ?_
              first
                | exact mq k ((if_pos hp).trans (if_pos ⟨hq, hr⟩)) o4 Y6
                | exact mq k ((if_pos hp).trans (if_neg (fun z => absurd z.1 (by omega)))) o4 Y6
                | exact mq k ((if_pos hp).trans (if_neg (fun z => absurd z.2 (by show ¬ rnk (gE G (pla (gQ G mn) no n)) (mn (pla (gQ G mn) no n)) p < mn (pla (gQ G mn) no n); omega)))) o4 Y6
                | exact mq k (if_neg hp) o4 Y6
        · refine xK_v rfl ?_
          refine xs_f 32 r_191_29 rfl ?_
          refine xs_f 33 r_191_32 rfl ?_
          refine xs_f 47 r_191_33 rfl ?_
          refine xs_putC 50 r_191_47 rfl o0 (by rfl) (by rfl) (fun f7 o7 y7 => ?_)
          have g8 := g0.fr (y7 _ (by omega))
          have Y9 := (Fr.rf : Fr h.1 h.1 a (a + 1)).tr (y7.wd (by omega) (by omega))
          refine xs_f 51 r_191_50 rfl ?_
          refine xs_get 54 r_191_51 rfl rfl (by first | assumption | exact o7) (by rfl) ?_
          refine xs_f 66 r_191_54 rfl ?_
          refine xs_f 67 r_191_66 rfl ?_
          refine xs_ret r_191_67 rfl ?_
          refine xK_v rfl ?_
          refine xs_f 8 (lv2 := [(4, _), (0, _), (1, _), (2, _), (3, _)]) r_192_6 rfl ?_
          refine xs_f 10 r_192_8 rfl ?_
          refine xs_f 11 r_192_10 rfl ?_
          refine xs_f 14 r_192_11 rfl ?_
          refine xs_f 15 r_192_14 rfl ?_
          refine xs_f 27 r_192_15 rfl ?_
          refine xs_ret r_192_27 rfl ?_
          refine xK_v rfl ?_
          refine xs_ret r_196_7 rfl ?_
          first
            | exact mq k ((if_pos hp).trans (if_pos ⟨hq, hr⟩)) o7 Y9
            | exact mq k ((if_pos hp).trans (if_neg (fun z => absurd z.1 (by omega)))) o7 Y9
            | exact mq k ((if_pos hp).trans (if_neg (fun z => absurd z.2 (by show ¬ rnk (gE G (pla (gQ G mn) no n)) (mn (pla (gQ G mn) no n)) p < mn (pla (gQ G mn) no n); omega)))) o7 Y9
            | exact mq k (if_neg hp) o7 Y9
      · refine xK_v rfl ?_
        refine xs_f 23 (lv2 := [(4, _), (3, _), (0, _), (1, _), (2, _)]) r_191_21 rfl ?_
        refine xs_f 24 r_191_23 rfl ?_
        refine xs_f 25 r_191_24 rfl ?_
        refine xs_f 26 r_191_25 rfl ?_
        refine xs_call (lv2 := [(0, _), (1, _)]) r_191_26 rfl rfl (by decide) (xcan_0 rfl rfl (by first | assumption | exact o0) (by rfl)) rfl (m_157 o0 g0 hG h32 (fun hp => ?_) (fun hp => ?_))
        · refine xK_v rfl ?_
          refine xs_f 36 r_191_29 rfl ?_
          refine xs_f 38 r_191_36 rfl ?_
          refine xs_f 39 r_191_38 rfl ?_
          refine xs_f 42 r_191_39 rfl ?_
          refine xs_f 43 r_191_42 rfl ?_
          refine xs_f 47 r_191_43 rfl ?_
          refine xs_putC 50 r_191_47 rfl o0 (by rfl) (by rfl) (fun f11 o11 y11 => ?_)
          have g12 := g0.fr (y11 _ (by omega))
          have Y13 := (Fr.rf : Fr h.1 h.1 a (a + 1)).tr (y11.wd (by omega) (by omega))
          refine xs_f 51 r_191_50 rfl ?_
          refine xs_get 54 r_191_51 rfl rfl (by first | assumption | exact o11) (by rfl) ?_
          refine xs_f 66 r_191_54 rfl ?_
          refine xs_f 67 r_191_66 rfl ?_
          refine xs_ret r_191_67 rfl ?_
          refine xK_v rfl ?_
          refine xs_f 8 (lv2 := [(4, _), (0, _), (1, _), (2, _), (3, _)]) r_192_6 rfl ?_
          refine xs_f 10 r_192_8 rfl ?_
          refine xs_f 11 r_192_10 rfl ?_
          refine xs_f 14 r_192_11 rfl ?_
          refine xs_f 15 r_192_14 rfl ?_
          refine xs_f 27 r_192_15 rfl ?_
          refine xs_ret r_192_27 rfl ?_
          refine xK_v rfl ?_
          refine xs_ret r_196_7 rfl ?_
          first
            | exact mq k ((if_pos hp).trans (if_pos ⟨hq, hr⟩)) o11 Y13
            | exact mq k ((if_pos hp).trans (if_neg (fun z => absurd z.1 (by omega)))) o11 Y13
            | exact mq k ((if_pos hp).trans (if_neg (fun z => absurd z.2 (by show ¬ rnk (gE G (pla (gQ G mn) no n)) (mn (pla (gQ G mn) no n)) p < mn (pla (gQ G mn) no n); omega)))) o11 Y13
            | exact mq k (if_neg hp) o11 Y13
        · refine xK_v rfl ?_
          refine xs_f 32 r_191_29 rfl ?_
          refine xs_f 33 r_191_32 rfl ?_
          refine xs_f 47 r_191_33 rfl ?_
          refine xs_putC 50 r_191_47 rfl o0 (by rfl) (by rfl) (fun f14 o14 y14 => ?_)
          have g15 := g0.fr (y14 _ (by omega))
          have Y16 := (Fr.rf : Fr h.1 h.1 a (a + 1)).tr (y14.wd (by omega) (by omega))
          refine xs_f 51 r_191_50 rfl ?_
          refine xs_get 54 r_191_51 rfl rfl (by first | assumption | exact o14) (by rfl) ?_
          refine xs_f 66 r_191_54 rfl ?_
          refine xs_f 67 r_191_66 rfl ?_
          refine xs_ret r_191_67 rfl ?_
          refine xK_v rfl ?_
          refine xs_f 8 (lv2 := [(4, _), (0, _), (1, _), (2, _), (3, _)]) r_192_6 rfl ?_
          refine xs_f 10 r_192_8 rfl ?_
          refine xs_f 11 r_192_10 rfl ?_
          refine xs_f 14 r_192_11 rfl ?_
          refine xs_f 15 r_192_14 rfl ?_
          refine xs_f 27 r_192_15 rfl ?_
          refine xs_ret r_192_27 rfl ?_
          refine xK_v rfl ?_
          refine xs_ret r_196_7 rfl ?_
          first
            | exact mq k ((if_pos hp).trans (if_pos ⟨hq, hr⟩)) o14 Y16
            | exact mq k ((if_pos hp).trans (if_neg (fun z => absurd z.1 (by omega)))) o14 Y16
            | exact mq k ((if_pos hp).trans (if_neg (fun z => absurd z.2 (by show ¬ rnk (gE G (pla (gQ G mn) no n)) (mn (pla (gQ G mn) no n)) p < mn (pla (gQ G mn) no n); omega)))) o14 Y16
            | exact mq k (if_neg hp) o14 Y16
  · refine xK_v rfl ?_
    refine xs_f 6 (lv2 := [(3, _), (0, _), (1, _), (2, _)]) r_191_5 rfl ?_
    refine xs_f 7 r_191_6 rfl ?_
    refine xs_f 8 r_191_7 rfl ?_
    refine xs_f 11 r_191_8 rfl ?_
    refine xs_f 12 r_191_11 rfl ?_
    refine xs_f 21 r_191_12 rfl ?_
    refine xs_f 23 (lv2 := [(4, _), (3, _), (0, _), (1, _), (2, _)]) r_191_21 rfl ?_
    refine xs_f 24 r_191_23 rfl ?_
    refine xs_f 25 r_191_24 rfl ?_
    refine xs_f 26 r_191_25 rfl ?_
    refine xs_call (lv2 := [(0, _), (1, _)]) r_191_26 rfl rfl (by decide) (xcan_0 rfl rfl (by first | assumption | exact o0) (by rfl)) rfl (m_157 o0 g0 hG h32 (fun hp => ?_) (fun hp => ?_))
    · refine xK_v rfl ?_
      refine xs_f 36 r_191_29 rfl ?_
      refine xs_f 38 r_191_36 rfl ?_
      refine xs_f 39 r_191_38 rfl ?_
      refine xs_f 42 r_191_39 rfl ?_
      refine xs_f 43 r_191_42 rfl ?_
      refine xs_f 47 r_191_43 rfl ?_
      refine xs_putC 50 r_191_47 rfl o0 (by rfl) (by rfl) (fun f18 o18 y18 => ?_)
      have g19 := g0.fr (y18 _ (by omega))
      have Y20 := (Fr.rf : Fr h.1 h.1 a (a + 1)).tr (y18.wd (by omega) (by omega))
      refine xs_f 51 r_191_50 rfl ?_
      refine xs_get 54 r_191_51 rfl rfl (by first | assumption | exact o18) (by rfl) ?_
      refine xs_f 66 r_191_54 rfl ?_
      refine xs_f 67 r_191_66 rfl ?_
      refine xs_ret r_191_67 rfl ?_
      refine xK_v rfl ?_
      refine xs_f 8 (lv2 := [(4, _), (0, _), (1, _), (2, _), (3, _)]) r_192_6 rfl ?_
      refine xs_f 10 r_192_8 rfl ?_
      refine xs_f 11 r_192_10 rfl ?_
      refine xs_f 14 r_192_11 rfl ?_
      refine xs_f 15 r_192_14 rfl ?_
      refine xs_f 27 r_192_15 rfl ?_
      refine xs_ret r_192_27 rfl ?_
      refine xK_v rfl ?_
      refine xs_ret r_196_7 rfl ?_
      first
        | exact mq k ((if_pos hp).trans (if_pos ⟨hq, hr⟩)) o18 Y20
        | exact mq k ((if_pos hp).trans (if_neg (fun z => absurd z.1 (by omega)))) o18 Y20
        | exact mq k ((if_pos hp).trans (if_neg (fun z => absurd z.2 (by show ¬ rnk (gE G (pla (gQ G mn) no n)) (mn (pla (gQ G mn) no n)) p < mn (pla (gQ G mn) no n); omega)))) o18 Y20
        | exact mq k (if_neg hp) o18 Y20
    · refine xK_v rfl ?_
      refine xs_f 32 r_191_29 rfl ?_
      refine xs_f 33 r_191_32 rfl ?_
      refine xs_f 47 r_191_33 rfl ?_
      refine xs_putC 50 r_191_47 rfl o0 (by rfl) (by rfl) (fun f21 o21 y21 => ?_)
      have g22 := g0.fr (y21 _ (by omega))
      have Y23 := (Fr.rf : Fr h.1 h.1 a (a + 1)).tr (y21.wd (by omega) (by omega))
      refine xs_f 51 r_191_50 rfl ?_
      refine xs_get 54 r_191_51 rfl rfl (by first | assumption | exact o21) (by rfl) ?_
      refine xs_f 66 r_191_54 rfl ?_
      refine xs_f 67 r_191_66 rfl ?_
      refine xs_ret r_191_67 rfl ?_
      refine xK_v rfl ?_
      refine xs_f 8 (lv2 := [(4, _), (0, _), (1, _), (2, _), (3, _)]) r_192_6 rfl ?_
      refine xs_f 10 r_192_8 rfl ?_
      refine xs_f 11 r_192_10 rfl ?_
      refine xs_f 14 r_192_11 rfl ?_
      refine xs_f 15 r_192_14 rfl ?_
      refine xs_f 27 r_192_15 rfl ?_
      refine xs_ret r_192_27 rfl ?_
      refine xK_v rfl ?_
      refine xs_ret r_196_7 rfl ?_
      first
        | exact mq k ((if_pos hp).trans (if_pos ⟨hq, hr⟩)) o21 Y23
        | exact mq k ((if_pos hp).trans (if_neg (fun z => absurd z.1 (by omega)))) o21 Y23
        | exact mq k ((if_pos hp).trans (if_neg (fun z => absurd z.2 (by show ¬ rnk (gE G (pla (gQ G mn) no n)) (mn (pla (gQ G mn) no n)) p < mn (pla (gQ G mn) no n); omega)))) o21 Y23
        | exact mq k (if_neg hp) o21 Y23

theorem m_197 {S : XSc} {d : Nat} {h : XH} {Q : XO → XH → Prop} {a : Nat} {G : Nat → Int32} {np no : Nat} {mn : Nat → Nat} {ch sv ty ea fa ol th sp wr : Int32} (o0 : h.1 a = some (.inr (9, mO a ch sv ty ea fa ol th sp wr))) (g0 : IA h.1 0 (a + 1) 288 G) (hG : WG G np no mn) (h32 : 32 ≤ a) {p n : Int32} (hok : ∀ i r, i < no → r < mn i → xconf (gE G i r).2.2.2.1) (k : ∀ f, f a = some (.inr (9, mO a ch sv ty ea fa ol (nI (R_fld np (gQ G mn) no p n xprize).1) sp wr)) → Fr h.1 f a (a + 1) → Q (.inl (some (.int (R_fld np (gQ G mn) no p n xprize).2))) (f, h.2)) : xP S (d + 3) 197 0 [(0, .ref a), (1, .int p), (2, .int n)] [] h Q := by
  refine xs_f 1 r_197_0 rfl ?_
  refine xs_f 2 r_197_1 rfl ?_
  refine xs_f 3 r_197_2 rfl ?_
  refine xs_call (lv2 := [(0, _), (1, _), (2, _)]) r_197_3 rfl rfl (by decide) (xcan_0 rfl rfl (by first | assumption | exact o0) (by rfl)) rfl ?_
  refine xs_f 1 r_191_0 rfl ?_
  refine xs_f 2 r_191_1 rfl ?_
  refine xs_call (lv2 := [(0, _), (1, _)]) r_191_2 rfl rfl (by decide) (xcan_0 rfl rfl (by first | assumption | exact o0) (by rfl)) rfl (m_158 o0 g0 hG h32 (fun hq => ?_) (fun hq => ?_))
  · have no6 := hG.2.1.2
    have mn5 := (hG.2.2 (pla (gQ G mn) no n) (by omega)).2
    refine xK_v rfl ?_
    refine xs_f 6 (lv2 := [(3, _), (0, _), (1, _), (2, _)]) r_191_5 rfl ?_
    refine xs_f 7 r_191_6 rfl ?_
    refine xs_f 8 r_191_7 rfl ?_
    refine xs_if 11 15 r_191_8 rfl (fun hc1 => ?_) (fun hc1 => ?_)
    · exact absurd hc1 (nI_m1 rfl (by omega))
    · refine xs_f 16 r_191_15 rfl ?_
      refine xs_f 17 r_191_16 rfl ?_
      refine xs_f 18 r_191_17 rfl ?_
      refine xs_call (lv2 := [(0, _), (1, _), (2, _)]) r_191_18 rfl rfl (by decide) (xcan_0 rfl rfl (by first | assumption | exact o0) (by rfl)) rfl (m_160 o0 g0 hG h32 (i := (pla (gQ G mn) no n)) (by omega) (fun hr => ?_) (fun hr => ?_))
      · refine xK_v rfl ?_
        refine xs_f 23 (lv2 := [(4, _), (3, _), (0, _), (1, _), (2, _)]) r_191_21 rfl ?_
        refine xs_f 24 r_191_23 rfl ?_
        refine xs_f 25 r_191_24 rfl ?_
        refine xs_f 26 r_191_25 rfl ?_
        refine xs_call (lv2 := [(0, _), (1, _)]) r_191_26 rfl rfl (by decide) (xcan_0 rfl rfl (by first | assumption | exact o0) (by rfl)) rfl (m_157 o0 g0 hG h32 (fun hp => ?_) (fun hp => ?_))
        · refine xK_v rfl ?_
          refine xs_f 36 r_191_29 rfl ?_
          refine xs_f 38 r_191_36 rfl ?_
          refine xs_f 39 r_191_38 rfl ?_
          refine xs_if 42 46 r_191_39 rfl (fun hc2 => ?_) (fun hc2 => ?_)
          · exact absurd hc2 (nI_m1 rfl (by omega))
          · refine xs_f 47 r_191_46 rfl ?_
            refine xs_putC 50 r_191_47 rfl o0 (by rfl) (by rfl) (fun f4 o4 y4 => ?_)
            have g5 := g0.fr (y4 _ (by omega))
            have Y6 := (Fr.rf : Fr h.1 h.1 a (a + 1)).tr (y4.wd (by omega) (by omega))
            refine xs_f 51 r_191_50 rfl ?_
            refine xs_get 54 r_191_51 rfl rfl (by first | assumption | exact o4) (by rfl) ?_
            refine xs_f 57 r_191_54 rfl ?_
            refine xs_f 58 r_191_57 rfl ?_
            refine xs_f 60 r_191_58 rfl ?_
            refine xs_call (lv2 := [(0, _), (1, _)]) r_191_60 rfl rfl (by decide) (xcan_1 rfl) rfl ?_
            refine xs_f 3 r_159_0 rfl ?_
            refine xs_f 5 r_159_3 rfl ?_
            refine xs_f 6 r_159_5 rfl ?_
            refine xs_f 7 r_159_6 rfl ?_
            refine xs_f 8 r_159_7 rfl ?_
            refine xs_f 9 r_159_8 rfl ?_
            refine xs_f 10 r_159_9 rfl ?_
            refine xs_f 11 r_159_10 rfl ?_
            refine xs_f 12 r_159_11 rfl ?_
            refine xs_ret r_159_12 rfl ?_
            refine xK_v rfl ?_
            refine xs_f 67 r_191_63 rfl ?_
            refine xs_ret r_191_67 rfl ?_
            refine xK_v rfl ?_
            refine xs_f 7 (lv2 := [(3, _), (0, _), (1, _), (2, _)]) r_197_6 rfl ?_
            refine xs_f 8 r_197_7 rfl ?_
            refine xs_f 9 r_197_8 rfl ?_
            refine xs_if 12 16 r_197_9 rfl (fun hc4 => ?_) (fun hc4 => ?_)
            · exact absurd hc4 (nI_m1 (nI_addE (nI_addE (nI_k 138) (nI_mulE (nI_k 25) rfl)) (nI_mulE (nI_k 5) rfl)) (by omega))
            · refine xs_f 17 r_197_16 rfl ?_
              refine xs_f 18 r_197_17 rfl ?_
              refine xs_call (lv2 := [(0, _), (1, _)]) r_197_18 rfl rfl (by decide) (xcan_0 rfl rfl (by first | assumption | exact o4) (by rfl)) rfl ?_
              refine xs_f 1 r_168_0 rfl ?_
              refine xs_get 4 r_168_1 rfl rfl (by first | assumption | exact o4) (by rfl) ?_
              refine xs_f 5 r_168_4 rfl ?_
              refine xs_f 6 r_168_5 rfl ?_
              refine xs_f 7 r_168_6 rfl ?_
              refine xs_aldI 8 r_168_7 (fun _ _ => rfl) rfl rfl rfl (j := (((138 + (25 * (pla (gQ G mn) no n))) + (5 * (rnk (gE G (pla (gQ G mn) no n)) (mn (pla (gQ G mn) no n)) p))) + 4)) (nI_addE (nI_addE (nI_addE (nI_k 138) (nI_mulE (nI_k 25) rfl)) (nI_mulE (nI_k 5) rfl)) (nI_k 4)) g5 (by omega) ?_
              refine xs_f 10 r_168_8 rfl ?_
              refine xs_f 11 r_168_10 rfl ?_
              refine xs_get 14 r_168_11 rfl rfl (by first | assumption | exact o4) (by rfl) ?_
              refine xs_f 15 r_168_14 rfl ?_
              refine xs_f 16 r_168_15 rfl ?_
              refine xs_f 17 r_168_16 rfl ?_
              refine xs_aldI 18 r_168_17 (fun _ _ => rfl) rfl rfl rfl (j := (((138 + (25 * (pla (gQ G mn) no n))) + (5 * (rnk (gE G (pla (gQ G mn) no n)) (mn (pla (gQ G mn) no n)) p))) + 3)) (nI_addE (nI_addE (nI_addE (nI_k 138) (nI_mulE (nI_k 25) rfl)) (nI_mulE (nI_k 5) rfl)) (nI_k 3)) g5 (by omega) ?_
              refine xs_f 19 r_168_18 rfl ?_
              refine xs_f 20 r_168_19 rfl ?_
              refine xs_f 21 r_168_20 rfl ?_
              refine xs_get 24 r_168_21 rfl rfl (by first | assumption | exact o4) (by rfl) ?_
              refine xs_f 25 r_168_24 rfl ?_
              refine xs_f 26 r_168_25 rfl ?_
              refine xs_f 27 r_168_26 rfl ?_
              refine xs_aldI 28 r_168_27 (fun _ _ => rfl) rfl rfl rfl (j := (((138 + (25 * (pla (gQ G mn) no n))) + (5 * (rnk (gE G (pla (gQ G mn) no n)) (mn (pla (gQ G mn) no n)) p))) + 3)) (nI_addE (nI_addE (nI_addE (nI_k 138) (nI_mulE (nI_k 25) rfl)) (nI_mulE (nI_k 5) rfl)) (nI_k 3)) g5 (by omega) ?_
              refine xs_idiv 29 r_168_28 rfl (xconf_ne (hok _ _ hq hr)).1 ?_
              refine xs_ret r_168_29 rfl ?_
              refine xK_v rfl ?_
              refine xs_ret r_197_21 rfl ?_
              first
                | exact mq k ((if_pos hp).trans (if_pos ⟨hq, hr⟩)) o4 Y6
                | exact mq k ((if_pos hp).trans (if_neg (fun z => absurd z.1 (by omega)))) o4 Y6
                | exact mq k ((if_pos hp).trans (if_neg (fun z => absurd z.2 (by show ¬ rnk (gE G (pla (gQ G mn) no n)) (mn (pla (gQ G mn) no n)) p < mn (pla (gQ G mn) no n); omega)))) o4 Y6
                | exact mq k (if_neg hp) o4 Y6
        · refine xK_v rfl ?_
          refine xs_f 32 r_191_29 rfl ?_
          refine xs_f 33 r_191_32 rfl ?_
          refine xs_f 47 r_191_33 rfl ?_
          refine xs_putC 50 r_191_47 rfl o0 (by rfl) (by rfl) (fun f7 o7 y7 => ?_)
          have g8 := g0.fr (y7 _ (by omega))
          have Y9 := (Fr.rf : Fr h.1 h.1 a (a + 1)).tr (y7.wd (by omega) (by omega))
          refine xs_f 51 r_191_50 rfl ?_
          refine xs_get 54 r_191_51 rfl rfl (by first | assumption | exact o7) (by rfl) ?_
          refine xs_f 66 r_191_54 rfl ?_
          refine xs_f 67 r_191_66 rfl ?_
          refine xs_ret r_191_67 rfl ?_
          refine xK_v rfl ?_
          refine xs_f 7 (lv2 := [(3, _), (0, _), (1, _), (2, _)]) r_197_6 rfl ?_
          refine xs_f 8 r_197_7 rfl ?_
          refine xs_f 9 r_197_8 rfl ?_
          refine xs_f 12 r_197_9 rfl ?_
          refine xs_f 13 r_197_12 rfl ?_
          refine xs_f 21 r_197_13 rfl ?_
          refine xs_ret r_197_21 rfl ?_
          first
            | exact mq k ((if_pos hp).trans (if_pos ⟨hq, hr⟩)) o7 Y9
            | exact mq k ((if_pos hp).trans (if_neg (fun z => absurd z.1 (by omega)))) o7 Y9
            | exact mq k ((if_pos hp).trans (if_neg (fun z => absurd z.2 (by show ¬ rnk (gE G (pla (gQ G mn) no n)) (mn (pla (gQ G mn) no n)) p < mn (pla (gQ G mn) no n); omega)))) o7 Y9
            | exact mq k (if_neg hp) o7 Y9
      · refine xK_v rfl ?_
        refine xs_f 23 (lv2 := [(4, _), (3, _), (0, _), (1, _), (2, _)]) r_191_21 rfl ?_
        refine xs_f 24 r_191_23 rfl ?_
        refine xs_f 25 r_191_24 rfl ?_
        refine xs_f 26 r_191_25 rfl ?_
        refine xs_call (lv2 := [(0, _), (1, _)]) r_191_26 rfl rfl (by decide) (xcan_0 rfl rfl (by first | assumption | exact o0) (by rfl)) rfl (m_157 o0 g0 hG h32 (fun hp => ?_) (fun hp => ?_))
        · refine xK_v rfl ?_
          refine xs_f 36 r_191_29 rfl ?_
          refine xs_f 38 r_191_36 rfl ?_
          refine xs_f 39 r_191_38 rfl ?_
          refine xs_f 42 r_191_39 rfl ?_
          refine xs_f 43 r_191_42 rfl ?_
          refine xs_f 47 r_191_43 rfl ?_
          refine xs_putC 50 r_191_47 rfl o0 (by rfl) (by rfl) (fun f11 o11 y11 => ?_)
          have g12 := g0.fr (y11 _ (by omega))
          have Y13 := (Fr.rf : Fr h.1 h.1 a (a + 1)).tr (y11.wd (by omega) (by omega))
          refine xs_f 51 r_191_50 rfl ?_
          refine xs_get 54 r_191_51 rfl rfl (by first | assumption | exact o11) (by rfl) ?_
          refine xs_f 66 r_191_54 rfl ?_
          refine xs_f 67 r_191_66 rfl ?_
          refine xs_ret r_191_67 rfl ?_
          refine xK_v rfl ?_
          refine xs_f 7 (lv2 := [(3, _), (0, _), (1, _), (2, _)]) r_197_6 rfl ?_
          refine xs_f 8 r_197_7 rfl ?_
          refine xs_f 9 r_197_8 rfl ?_
          refine xs_f 12 r_197_9 rfl ?_
          refine xs_f 13 r_197_12 rfl ?_
          refine xs_f 21 r_197_13 rfl ?_
          refine xs_ret r_197_21 rfl ?_
          first
            | exact mq k ((if_pos hp).trans (if_pos ⟨hq, hr⟩)) o11 Y13
            | exact mq k ((if_pos hp).trans (if_neg (fun z => absurd z.1 (by omega)))) o11 Y13
            | exact mq k ((if_pos hp).trans (if_neg (fun z => absurd z.2 (by show ¬ rnk (gE G (pla (gQ G mn) no n)) (mn (pla (gQ G mn) no n)) p < mn (pla (gQ G mn) no n); omega)))) o11 Y13
            | exact mq k (if_neg hp) o11 Y13
        · refine xK_v rfl ?_
          refine xs_f 32 r_191_29 rfl ?_
          refine xs_f 33 r_191_32 rfl ?_
          refine xs_f 47 r_191_33 rfl ?_
          refine xs_putC 50 r_191_47 rfl o0 (by rfl) (by rfl) (fun f14 o14 y14 => ?_)
          have g15 := g0.fr (y14 _ (by omega))
          have Y16 := (Fr.rf : Fr h.1 h.1 a (a + 1)).tr (y14.wd (by omega) (by omega))
          refine xs_f 51 r_191_50 rfl ?_
          refine xs_get 54 r_191_51 rfl rfl (by first | assumption | exact o14) (by rfl) ?_
          refine xs_f 66 r_191_54 rfl ?_
          refine xs_f 67 r_191_66 rfl ?_
          refine xs_ret r_191_67 rfl ?_
          refine xK_v rfl ?_
          refine xs_f 7 (lv2 := [(3, _), (0, _), (1, _), (2, _)]) r_197_6 rfl ?_
          refine xs_f 8 r_197_7 rfl ?_
          refine xs_f 9 r_197_8 rfl ?_
          refine xs_f 12 r_197_9 rfl ?_
          refine xs_f 13 r_197_12 rfl ?_
          refine xs_f 21 r_197_13 rfl ?_
          refine xs_ret r_197_21 rfl ?_
          first
            | exact mq k ((if_pos hp).trans (if_pos ⟨hq, hr⟩)) o14 Y16
            | exact mq k ((if_pos hp).trans (if_neg (fun z => absurd z.1 (by omega)))) o14 Y16
            | exact mq k ((if_pos hp).trans (if_neg (fun z => absurd z.2 (by show ¬ rnk (gE G (pla (gQ G mn) no n)) (mn (pla (gQ G mn) no n)) p < mn (pla (gQ G mn) no n); omega)))) o14 Y16
            | exact mq k (if_neg hp) o14 Y16
  · refine xK_v rfl ?_
    refine xs_f 6 (lv2 := [(3, _), (0, _), (1, _), (2, _)]) r_191_5 rfl ?_
    refine xs_f 7 r_191_6 rfl ?_
    refine xs_f 8 r_191_7 rfl ?_
    refine xs_f 11 r_191_8 rfl ?_
    refine xs_f 12 r_191_11 rfl ?_
    refine xs_f 21 r_191_12 rfl ?_
    refine xs_f 23 (lv2 := [(4, _), (3, _), (0, _), (1, _), (2, _)]) r_191_21 rfl ?_
    refine xs_f 24 r_191_23 rfl ?_
    refine xs_f 25 r_191_24 rfl ?_
    refine xs_f 26 r_191_25 rfl ?_
    refine xs_call (lv2 := [(0, _), (1, _)]) r_191_26 rfl rfl (by decide) (xcan_0 rfl rfl (by first | assumption | exact o0) (by rfl)) rfl (m_157 o0 g0 hG h32 (fun hp => ?_) (fun hp => ?_))
    · refine xK_v rfl ?_
      refine xs_f 36 r_191_29 rfl ?_
      refine xs_f 38 r_191_36 rfl ?_
      refine xs_f 39 r_191_38 rfl ?_
      refine xs_f 42 r_191_39 rfl ?_
      refine xs_f 43 r_191_42 rfl ?_
      refine xs_f 47 r_191_43 rfl ?_
      refine xs_putC 50 r_191_47 rfl o0 (by rfl) (by rfl) (fun f18 o18 y18 => ?_)
      have g19 := g0.fr (y18 _ (by omega))
      have Y20 := (Fr.rf : Fr h.1 h.1 a (a + 1)).tr (y18.wd (by omega) (by omega))
      refine xs_f 51 r_191_50 rfl ?_
      refine xs_get 54 r_191_51 rfl rfl (by first | assumption | exact o18) (by rfl) ?_
      refine xs_f 66 r_191_54 rfl ?_
      refine xs_f 67 r_191_66 rfl ?_
      refine xs_ret r_191_67 rfl ?_
      refine xK_v rfl ?_
      refine xs_f 7 (lv2 := [(3, _), (0, _), (1, _), (2, _)]) r_197_6 rfl ?_
      refine xs_f 8 r_197_7 rfl ?_
      refine xs_f 9 r_197_8 rfl ?_
      refine xs_f 12 r_197_9 rfl ?_
      refine xs_f 13 r_197_12 rfl ?_
      refine xs_f 21 r_197_13 rfl ?_
      refine xs_ret r_197_21 rfl ?_
      first
        | exact mq k ((if_pos hp).trans (if_pos ⟨hq, hr⟩)) o18 Y20
        | exact mq k ((if_pos hp).trans (if_neg (fun z => absurd z.1 (by omega)))) o18 Y20
        | exact mq k ((if_pos hp).trans (if_neg (fun z => absurd z.2 (by show ¬ rnk (gE G (pla (gQ G mn) no n)) (mn (pla (gQ G mn) no n)) p < mn (pla (gQ G mn) no n); omega)))) o18 Y20
        | exact mq k (if_neg hp) o18 Y20
    · refine xK_v rfl ?_
      refine xs_f 32 r_191_29 rfl ?_
      refine xs_f 33 r_191_32 rfl ?_
      refine xs_f 47 r_191_33 rfl ?_
      refine xs_putC 50 r_191_47 rfl o0 (by rfl) (by rfl) (fun f21 o21 y21 => ?_)
      have g22 := g0.fr (y21 _ (by omega))
      have Y23 := (Fr.rf : Fr h.1 h.1 a (a + 1)).tr (y21.wd (by omega) (by omega))
      refine xs_f 51 r_191_50 rfl ?_
      refine xs_get 54 r_191_51 rfl rfl (by first | assumption | exact o21) (by rfl) ?_
      refine xs_f 66 r_191_54 rfl ?_
      refine xs_f 67 r_191_66 rfl ?_
      refine xs_ret r_191_67 rfl ?_
      refine xK_v rfl ?_
      refine xs_f 7 (lv2 := [(3, _), (0, _), (1, _), (2, _)]) r_197_6 rfl ?_
      refine xs_f 8 r_197_7 rfl ?_
      refine xs_f 9 r_197_8 rfl ?_
      refine xs_f 12 r_197_9 rfl ?_
      refine xs_f 13 r_197_12 rfl ?_
      refine xs_f 21 r_197_13 rfl ?_
      refine xs_ret r_197_21 rfl ?_
      first
        | exact mq k ((if_pos hp).trans (if_pos ⟨hq, hr⟩)) o21 Y23
        | exact mq k ((if_pos hp).trans (if_neg (fun z => absurd z.1 (by omega)))) o21 Y23
        | exact mq k ((if_pos hp).trans (if_neg (fun z => absurd z.2 (by show ¬ rnk (gE G (pla (gQ G mn) no n)) (mn (pla (gQ G mn) no n)) p < mn (pla (gQ G mn) no n); omega)))) o21 Y23
        | exact mq k (if_neg hp) o21 Y23

theorem ml_200 {S : XSc} {d : Nat} {h : XH} {Q : XO → XH → Prop} {a : Nat} {G : Nat → Int32} {np no : Nat} {mn : Nat → Nat} {ch sv ty ea fa ol th sp wr : Int32} (o0 : h.1 a = some (.inr (9, mO a ch sv ty ea fa ol th sp wr))) (g0 : IA h.1 0 (a + 1) 288 G) (hG : WG G np no mn) (h32 : 32 ≤ a) {n : Int32} (hq : (pla (gQ G mn) no n) < no) (h0 : 0 < mn (pla (gQ G mn) no n)) (k : ∀ f, f a = some (.inr (9, mO a ch sv ty ea fa ol (nI ((0, nI (mstV (gE G (pla (gQ G mn) no n)) (mn (pla (gQ G mn) no n)) 999).1) : XR).1) sp wr)) → Fr h.1 f a (a + 1) → Q (.inl (some (.int ((0, nI (mstV (gE G (pla (gQ G mn) no n)) (mn (pla (gQ G mn) no n)) 999).1) : XR).2))) (f, h.2)) : ∀ (m : Nat) (i : Nat), 999 - i < m → (i ≤ 999) → xP S (d + 2) 200 43 [(0, .ref a), (1, .int n), (2, .int (nI (pla (gQ G mn) no n))), (3, .int (nI (mstV (gE G (pla (gQ G mn) no n)) (mn (pla (gQ G mn) no n)) i).1)), (4, .int (nI (mstV (gE G (pla (gQ G mn) no n)) (mn (pla (gQ G mn) no n)) i).2)), (5, .int (nI (i + 1)))] [] h Q := by
  intro m
  induction m with
  | zero => intro i hm; exact absurd hm (Nat.not_lt_zero _)
  | succ m ih =>
    intro i hm hi
    have no6 := hG.2.1.2
    have mn5 := (hG.2.2 (pla (gQ G mn) no n) (by omega)).2
    have ml := mstV_le (gE G (pla (gQ G mn) no n)) (mn (pla (gQ G mn) no n)) i
    have cl := xcov_le (gE G (pla (gQ G mn) no n)) (nI (i + 1)) (mn (pla (gQ G mn) no n))
    refine xs_f 45 r_200_43 rfl ?_
    refine xs_f 48 r_200_45 rfl ?_
    refine xs_if 96 51 r_200_48 rfl (fun hc1 => ?_) (fun hc1 => ?_)
    · have hc1 := (nI_ltN (nI_k 999) rfl (by omega) (by omega)).mp hc1
      refine xs_f 97 r_200_96 rfl ?_
      refine xs_f 98 r_200_97 rfl ?_
      refine xs_call (lv2 := [(0, _), (1, _)]) r_200_98 rfl rfl (by decide) (xcan_0 rfl rfl (by first | assumption | exact o0) (by rfl)) rfl ?_
      refine xs_f 1 r_152_0 rfl ?_
      refine xs_f 2 r_152_1 rfl ?_
      refine xs_putC 5 r_152_2 rfl o0 (by rfl) (by rfl) (fun f1 o1 y1 => ?_)
      have g2 := g0.fr (y1 _ (by omega))
      have Y3 := (Fr.rf : Fr h.1 h.1 a (a + 1)).tr (y1.wd (by omega) (by omega))
      refine xs_f 6 r_152_5 rfl ?_
      refine xs_ret r_152_6 rfl ?_
      refine xK_v rfl ?_
      refine xs_ret r_200_101 rfl ?_
      have e : i = 999 := by omega
      subst e
      exact k _ o1 Y3
    · have hc1 := mt (nI_ltN (nI_k 999) rfl (by omega) (by omega)).mpr hc1
      refine xs_f 52 r_200_51 rfl ?_
      refine xs_f 53 r_200_52 rfl ?_
      refine xs_f 55 r_200_53 rfl ?_
      refine xs_call (lv2 := [(0, _), (1, _), (2, _)]) r_200_55 rfl rfl (by decide) (xcan_0 rfl rfl (by first | assumption | exact o0) (by rfl)) rfl (m_198 o0 g0 hG h32 (i := (pla (gQ G mn) no n)) (by omega) ?_)
      refine xK_v rfl ?_
      refine xs_f 60 (lv2 := [(6, _), (0, _), (1, _), (2, _), (3, _), (4, _), (5, _)]) r_200_58 rfl ?_
      refine xs_f 62 r_200_60 rfl ?_
      refine xs_f 64 r_200_62 rfl ?_
      refine xs_if 72 67 r_200_64 rfl (fun h1 => ?_) (fun h1 => ?_)
      · have h1 := (nI_leN rfl rfl (by omega) (by omega)).mp h1
        refine xs_f 73 r_200_72 rfl ?_
        refine xs_f 74 (lv2 := [(3, _), (6, _), (0, _), (1, _), (2, _), (4, _), (5, _)]) r_200_73 rfl ?_
        refine xs_f 76 r_200_74 rfl ?_
        refine xs_f 78 r_200_76 rfl ?_
        refine xs_if 86 81 r_200_78 rfl (fun h2 => ?_) (fun h2 => ?_)
        · have h2 := (nI_leN rfl rfl (by omega) (by omega)).mp h2
          refine xs_f 88 r_200_86 rfl ?_
          refine xs_f 90 (lv2 := [(4, _), (3, _), (6, _), (0, _), (1, _), (2, _), (5, _)]) r_200_88 rfl ?_
          refine xs_f 93 (lv2 := [(5, _), (4, _), (3, _), (6, _), (0, _), (1, _), (2, _)]) r_200_90 rfl ?_
          refine xs_f 43 r_200_93 rfl ?_
          first
            | (exfalso; omega)
            | exact xP_lv [(0, .ref a), (1, .int n), (2, .int (nI (pla (gQ G mn) no n))), (3, .int (nI (mstV (gE G (pla (gQ G mn) no n)) (mn (pla (gQ G mn) no n)) (i + 1)).1)), (4, .int (nI (mstV (gE G (pla (gQ G mn) no n)) (mn (pla (gQ G mn) no n)) (i + 1)).2)), (5, .int (nI ((i + 1) + 1)))] rfl ⟨rfl, rfl, rfl, (by rw [show mstV (gE G (pla (gQ G mn) no n)) (mn (pla (gQ G mn) no n)) (i + 1) = ((i + 1), xcov (gE G (pla (gQ G mn) no n)) (nI (i + 1)) (mn (pla (gQ G mn) no n))) from by rw [mstV_s, if_pos (by omega)]]; rfl), (by rw [show mstV (gE G (pla (gQ G mn) no n)) (mn (pla (gQ G mn) no n)) (i + 1) = ((i + 1), xcov (gE G (pla (gQ G mn) no n)) (nI (i + 1)) (mn (pla (gQ G mn) no n))) from by rw [mstV_s, if_pos (by omega)]]; rfl), (by rw [nI_succ (i + 1)]; rfl), trivial⟩ (ih (i + 1) (by omega) (by omega))
            | exact xP_lv [(0, .ref a), (1, .int n), (2, .int (nI (pla (gQ G mn) no n))), (3, .int (nI (mstV (gE G (pla (gQ G mn) no n)) (mn (pla (gQ G mn) no n)) (i + 1)).1)), (4, .int (nI (mstV (gE G (pla (gQ G mn) no n)) (mn (pla (gQ G mn) no n)) (i + 1)).2)), (5, .int (nI ((i + 1) + 1)))] rfl ⟨rfl, rfl, rfl, (by rw [show mstV (gE G (pla (gQ G mn) no n)) (mn (pla (gQ G mn) no n)) (i + 1) = mstV (gE G (pla (gQ G mn) no n)) (mn (pla (gQ G mn) no n)) i from by rw [mstV_s, if_neg (by omega)]]; rfl), (by rw [show mstV (gE G (pla (gQ G mn) no n)) (mn (pla (gQ G mn) no n)) (i + 1) = mstV (gE G (pla (gQ G mn) no n)) (mn (pla (gQ G mn) no n)) i from by rw [mstV_s, if_neg (by omega)]]; rfl), (by rw [nI_succ (i + 1)]; rfl), trivial⟩ (ih (i + 1) (by omega) (by omega))
        · have h2 := mt (nI_leN rfl rfl (by omega) (by omega)).mpr h2
          refine xs_f 83 r_200_81 rfl ?_
          refine xs_f 88 r_200_83 rfl ?_
          refine xs_f 90 (lv2 := [(4, _), (3, _), (6, _), (0, _), (1, _), (2, _), (5, _)]) r_200_88 rfl ?_
          refine xs_f 93 (lv2 := [(5, _), (4, _), (3, _), (6, _), (0, _), (1, _), (2, _)]) r_200_90 rfl ?_
          refine xs_f 43 r_200_93 rfl ?_
          first
            | (exfalso; omega)
            | exact xP_lv [(0, .ref a), (1, .int n), (2, .int (nI (pla (gQ G mn) no n))), (3, .int (nI (mstV (gE G (pla (gQ G mn) no n)) (mn (pla (gQ G mn) no n)) (i + 1)).1)), (4, .int (nI (mstV (gE G (pla (gQ G mn) no n)) (mn (pla (gQ G mn) no n)) (i + 1)).2)), (5, .int (nI ((i + 1) + 1)))] rfl ⟨rfl, rfl, rfl, (by rw [show mstV (gE G (pla (gQ G mn) no n)) (mn (pla (gQ G mn) no n)) (i + 1) = ((i + 1), xcov (gE G (pla (gQ G mn) no n)) (nI (i + 1)) (mn (pla (gQ G mn) no n))) from by rw [mstV_s, if_pos (by omega)]]; rfl), (by rw [show mstV (gE G (pla (gQ G mn) no n)) (mn (pla (gQ G mn) no n)) (i + 1) = ((i + 1), xcov (gE G (pla (gQ G mn) no n)) (nI (i + 1)) (mn (pla (gQ G mn) no n))) from by rw [mstV_s, if_pos (by omega)]]; rfl), (by rw [nI_succ (i + 1)]; rfl), trivial⟩ (ih (i + 1) (by omega) (by omega))
            | exact xP_lv [(0, .ref a), (1, .int n), (2, .int (nI (pla (gQ G mn) no n))), (3, .int (nI (mstV (gE G (pla (gQ G mn) no n)) (mn (pla (gQ G mn) no n)) (i + 1)).1)), (4, .int (nI (mstV (gE G (pla (gQ G mn) no n)) (mn (pla (gQ G mn) no n)) (i + 1)).2)), (5, .int (nI ((i + 1) + 1)))] rfl ⟨rfl, rfl, rfl, (by rw [show mstV (gE G (pla (gQ G mn) no n)) (mn (pla (gQ G mn) no n)) (i + 1) = mstV (gE G (pla (gQ G mn) no n)) (mn (pla (gQ G mn) no n)) i from by rw [mstV_s, if_neg (by omega)]]; rfl), (by rw [show mstV (gE G (pla (gQ G mn) no n)) (mn (pla (gQ G mn) no n)) (i + 1) = mstV (gE G (pla (gQ G mn) no n)) (mn (pla (gQ G mn) no n)) i from by rw [mstV_s, if_neg (by omega)]]; rfl), (by rw [nI_succ (i + 1)]; rfl), trivial⟩ (ih (i + 1) (by omega) (by omega))
      · have h1 := mt (nI_leN rfl rfl (by omega) (by omega)).mpr h1
        refine xs_f 69 r_200_67 rfl ?_
        refine xs_f 73 r_200_69 rfl ?_
        refine xs_f 74 (lv2 := [(3, _), (6, _), (0, _), (1, _), (2, _), (4, _), (5, _)]) r_200_73 rfl ?_
        refine xs_f 76 r_200_74 rfl ?_
        refine xs_f 78 r_200_76 rfl ?_
        refine xs_if 86 81 r_200_78 rfl (fun h2 => ?_) (fun h2 => ?_)
        · have h2 := (nI_leN rfl rfl (by omega) (by omega)).mp h2
          refine xs_f 88 r_200_86 rfl ?_
          refine xs_f 90 (lv2 := [(4, _), (3, _), (6, _), (0, _), (1, _), (2, _), (5, _)]) r_200_88 rfl ?_
          refine xs_f 93 (lv2 := [(5, _), (4, _), (3, _), (6, _), (0, _), (1, _), (2, _)]) r_200_90 rfl ?_
          refine xs_f 43 r_200_93 rfl ?_
          first
            | (exfalso; omega)
            | exact xP_lv [(0, .ref a), (1, .int n), (2, .int (nI (pla (gQ G mn) no n))), (3, .int (nI (mstV (gE G (pla (gQ G mn) no n)) (mn (pla (gQ G mn) no n)) (i + 1)).1)), (4, .int (nI (mstV (gE G (pla (gQ G mn) no n)) (mn (pla (gQ G mn) no n)) (i + 1)).2)), (5, .int (nI ((i + 1) + 1)))] rfl ⟨rfl, rfl, rfl, (by rw [show mstV (gE G (pla (gQ G mn) no n)) (mn (pla (gQ G mn) no n)) (i + 1) = ((i + 1), xcov (gE G (pla (gQ G mn) no n)) (nI (i + 1)) (mn (pla (gQ G mn) no n))) from by rw [mstV_s, if_pos (by omega)]]; rfl), (by rw [show mstV (gE G (pla (gQ G mn) no n)) (mn (pla (gQ G mn) no n)) (i + 1) = ((i + 1), xcov (gE G (pla (gQ G mn) no n)) (nI (i + 1)) (mn (pla (gQ G mn) no n))) from by rw [mstV_s, if_pos (by omega)]]; rfl), (by rw [nI_succ (i + 1)]; rfl), trivial⟩ (ih (i + 1) (by omega) (by omega))
            | exact xP_lv [(0, .ref a), (1, .int n), (2, .int (nI (pla (gQ G mn) no n))), (3, .int (nI (mstV (gE G (pla (gQ G mn) no n)) (mn (pla (gQ G mn) no n)) (i + 1)).1)), (4, .int (nI (mstV (gE G (pla (gQ G mn) no n)) (mn (pla (gQ G mn) no n)) (i + 1)).2)), (5, .int (nI ((i + 1) + 1)))] rfl ⟨rfl, rfl, rfl, (by rw [show mstV (gE G (pla (gQ G mn) no n)) (mn (pla (gQ G mn) no n)) (i + 1) = mstV (gE G (pla (gQ G mn) no n)) (mn (pla (gQ G mn) no n)) i from by rw [mstV_s, if_neg (by omega)]]; rfl), (by rw [show mstV (gE G (pla (gQ G mn) no n)) (mn (pla (gQ G mn) no n)) (i + 1) = mstV (gE G (pla (gQ G mn) no n)) (mn (pla (gQ G mn) no n)) i from by rw [mstV_s, if_neg (by omega)]]; rfl), (by rw [nI_succ (i + 1)]; rfl), trivial⟩ (ih (i + 1) (by omega) (by omega))
        · have h2 := mt (nI_leN rfl rfl (by omega) (by omega)).mpr h2
          refine xs_f 83 r_200_81 rfl ?_
          refine xs_f 88 r_200_83 rfl ?_
          refine xs_f 90 (lv2 := [(4, _), (3, _), (6, _), (0, _), (1, _), (2, _), (5, _)]) r_200_88 rfl ?_
          refine xs_f 93 (lv2 := [(5, _), (4, _), (3, _), (6, _), (0, _), (1, _), (2, _)]) r_200_90 rfl ?_
          refine xs_f 43 r_200_93 rfl ?_
          first
            | (exfalso; omega)
            | exact xP_lv [(0, .ref a), (1, .int n), (2, .int (nI (pla (gQ G mn) no n))), (3, .int (nI (mstV (gE G (pla (gQ G mn) no n)) (mn (pla (gQ G mn) no n)) (i + 1)).1)), (4, .int (nI (mstV (gE G (pla (gQ G mn) no n)) (mn (pla (gQ G mn) no n)) (i + 1)).2)), (5, .int (nI ((i + 1) + 1)))] rfl ⟨rfl, rfl, rfl, (by rw [show mstV (gE G (pla (gQ G mn) no n)) (mn (pla (gQ G mn) no n)) (i + 1) = ((i + 1), xcov (gE G (pla (gQ G mn) no n)) (nI (i + 1)) (mn (pla (gQ G mn) no n))) from by rw [mstV_s, if_pos (by omega)]]; rfl), (by rw [show mstV (gE G (pla (gQ G mn) no n)) (mn (pla (gQ G mn) no n)) (i + 1) = ((i + 1), xcov (gE G (pla (gQ G mn) no n)) (nI (i + 1)) (mn (pla (gQ G mn) no n))) from by rw [mstV_s, if_pos (by omega)]]; rfl), (by rw [nI_succ (i + 1)]; rfl), trivial⟩ (ih (i + 1) (by omega) (by omega))
            | exact xP_lv [(0, .ref a), (1, .int n), (2, .int (nI (pla (gQ G mn) no n))), (3, .int (nI (mstV (gE G (pla (gQ G mn) no n)) (mn (pla (gQ G mn) no n)) (i + 1)).1)), (4, .int (nI (mstV (gE G (pla (gQ G mn) no n)) (mn (pla (gQ G mn) no n)) (i + 1)).2)), (5, .int (nI ((i + 1) + 1)))] rfl ⟨rfl, rfl, rfl, (by rw [show mstV (gE G (pla (gQ G mn) no n)) (mn (pla (gQ G mn) no n)) (i + 1) = mstV (gE G (pla (gQ G mn) no n)) (mn (pla (gQ G mn) no n)) i from by rw [mstV_s, if_neg (by omega)]]; rfl), (by rw [show mstV (gE G (pla (gQ G mn) no n)) (mn (pla (gQ G mn) no n)) (i + 1) = mstV (gE G (pla (gQ G mn) no n)) (mn (pla (gQ G mn) no n)) i from by rw [mstV_s, if_neg (by omega)]]; rfl), (by rw [nI_succ (i + 1)]; rfl), trivial⟩ (ih (i + 1) (by omega) (by omega))

theorem m_200 {S : XSc} {d : Nat} {h : XH} {Q : XO → XH → Prop} {a : Nat} {G : Nat → Int32} {np no : Nat} {mn : Nat → Nat} {ch sv ty ea fa ol th sp wr : Int32} (o0 : h.1 a = some (.inr (9, mO a ch sv ty ea fa ol th sp wr))) (g0 : IA h.1 0 (a + 1) 288 G) (hG : WG G np no mn) (h32 : 32 ≤ a) {n : Int32} (k : ∀ f, f a = some (.inr (9, mO a ch sv ty ea fa ol (nI (R_mst (gQ G mn) no n).1) sp wr)) → Fr h.1 f a (a + 1) → Q (.inl (some (.int (R_mst (gQ G mn) no n).2))) (f, h.2)) : xP S (d + 2) 200 0 [(0, .ref a), (1, .int n)] [] h Q := by
  refine xs_f 1 r_200_0 rfl ?_
  refine xs_f 2 r_200_1 rfl ?_
  refine xs_call (lv2 := [(0, _), (1, _)]) r_200_2 rfl rfl (by decide) (xcan_0 rfl rfl (by first | assumption | exact o0) (by rfl)) rfl (m_158 o0 g0 hG h32 (fun hq => ?_) (fun hq => ?_))
  · have no6 := hG.2.1.2
    have mn5 := (hG.2.2 (pla (gQ G mn) no n) (by omega)).2
    refine xK_v rfl ?_
    refine xs_f 6 (lv2 := [(2, _), (0, _), (1, _)]) r_200_5 rfl ?_
    refine xs_f 7 r_200_6 rfl ?_
    refine xs_f 8 r_200_7 rfl ?_
    refine xs_if 24 11 r_200_8 rfl (fun hc1 => ?_) (fun hc1 => ?_)
    · exact absurd hc1 (nI_m1 rfl (by omega))
    · refine xs_f 12 r_200_11 rfl ?_
      refine xs_get 15 r_200_12 rfl rfl (by first | assumption | exact o0) (by rfl) ?_
      refine xs_f 18 r_200_15 rfl ?_
      refine xs_f 19 r_200_18 rfl ?_
      refine xs_f 20 r_200_19 rfl ?_
      refine xs_aldI 21 r_200_20 (fun _ _ => rfl) rfl rfl rfl (j := (132 + (pla (gQ G mn) no n))) (nI_addE (nI_k 132) rfl) g0 (by omega) ?_
      rw [(hG.2.2 (pla (gQ G mn) no n) (by omega)).1]
      refine xs_if 24 30 r_200_21 rfl (fun h0 => ?_) (fun h0 => ?_)
      · have h0 := (nI_eqN rfl (nI_k 0) (by omega) (by omega)).mp h0
        refine xs_f 25 r_200_24 rfl ?_
        refine xs_f 26 r_200_25 rfl ?_
        refine xs_call (lv2 := [(0, _), (1, _)]) r_200_26 rfl rfl (by decide) (xcan_0 rfl rfl (by first | assumption | exact o0) (by rfl)) rfl ?_
        refine xs_f 1 r_153_0 rfl ?_
        refine xs_f 2 r_153_1 rfl ?_
        refine xs_putC 5 r_153_2 rfl o0 (by rfl) (by rfl) (fun f2 o2 y2 => ?_)
        have g3 := g0.fr (y2 _ (by omega))
        have Y4 := (Fr.rf : Fr h.1 h.1 a (a + 1)).tr (y2.wd (by omega) (by omega))
        refine xs_f 6 r_153_5 rfl ?_
        refine xs_ret r_153_6 rfl ?_
        refine xK_v rfl ?_
        refine xs_ret r_200_29 rfl ?_
        first
          | exact mq k (if_neg (fun z => absurd z.2 (by show ¬ 0 < mn (pla (gQ G mn) no n); omega))) o2 Y4
          | exact mq k (if_neg (fun z => absurd z.1 (by omega))) o2 Y4
      · have h0 := mt (nI_eqN rfl (nI_k 0) (by omega) (by omega)).mpr h0
        refine xs_f 31 r_200_30 rfl ?_
        refine xs_f 32 (lv2 := [(3, _), (2, _), (0, _), (1, _)]) r_200_31 rfl ?_
        refine xs_f 33 r_200_32 rfl ?_
        refine xs_f 34 r_200_33 rfl ?_
        refine xs_f 35 r_200_34 rfl ?_
        refine xs_call (lv2 := [(0, _), (1, _), (2, _)]) r_200_35 rfl rfl (by decide) (xcan_0 rfl rfl (by first | assumption | exact o0) (by rfl)) rfl (m_198 o0 g0 hG h32 (i := (pla (gQ G mn) no n)) (by omega) ?_)
        refine xK_v rfl ?_
        refine xs_f 40 (lv2 := [(4, _), (3, _), (2, _), (0, _), (1, _)]) r_200_38 rfl ?_
        refine xs_f 41 r_200_40 rfl ?_
        refine xs_f 43 (lv2 := [(5, _), (4, _), (3, _), (2, _), (0, _), (1, _)]) r_200_41 rfl ?_
        exact xP_lv [(0, .ref a), (1, .int n), (2, .int (nI (pla (gQ G mn) no n))), (3, .int (nI (mstV (gE G (pla (gQ G mn) no n)) (mn (pla (gQ G mn) no n)) 0).1)), (4, .int (nI (mstV (gE G (pla (gQ G mn) no n)) (mn (pla (gQ G mn) no n)) 0).2)), (5, .int (nI (0 + 1)))] rfl ⟨rfl, rfl, rfl, rfl, rfl, rfl, trivial⟩ (ml_200 o0 g0 hG h32 hq (by omega) (fun f o1 y1 => mq k (if_pos ⟨hq, (by show 0 < mn (pla (gQ G mn) no n); omega)⟩) o1 y1) 1000 0 (by omega) (by omega))
  · refine xK_v rfl ?_
    refine xs_f 6 (lv2 := [(2, _), (0, _), (1, _)]) r_200_5 rfl ?_
    refine xs_f 7 r_200_6 rfl ?_
    refine xs_f 8 r_200_7 rfl ?_
    refine xs_f 24 r_200_8 rfl ?_
    refine xs_f 25 r_200_24 rfl ?_
    refine xs_f 26 r_200_25 rfl ?_
    refine xs_call (lv2 := [(0, _), (1, _)]) r_200_26 rfl rfl (by decide) (xcan_0 rfl rfl (by first | assumption | exact o0) (by rfl)) rfl ?_
    refine xs_f 1 r_153_0 rfl ?_
    refine xs_f 2 r_153_1 rfl ?_
    refine xs_putC 5 r_153_2 rfl o0 (by rfl) (by rfl) (fun f6 o6 y6 => ?_)
    have g7 := g0.fr (y6 _ (by omega))
    have Y8 := (Fr.rf : Fr h.1 h.1 a (a + 1)).tr (y6.wd (by omega) (by omega))
    refine xs_f 6 r_153_5 rfl ?_
    refine xs_ret r_153_6 rfl ?_
    refine xK_v rfl ?_
    refine xs_ret r_200_29 rfl ?_
    first
      | exact mq k (if_neg (fun z => absurd z.2 (by show ¬ 0 < mn (pla (gQ G mn) no n); omega))) o6 Y8
      | exact mq k (if_neg (fun z => absurd z.1 (by omega))) o6 Y8

theorem ml_202 {S : XSc} {d : Nat} {h : XH} {Q : XO → XH → Prop} {a : Nat} {G : Nat → Int32} {np no : Nat} {mn : Nat → Nat} {ch sv ty ea fa ol th sp wr : Int32} (o0 : h.1 a = some (.inr (9, mO a ch sv ty ea fa ol th sp wr))) (g0 : IA h.1 0 (a + 1) 288 G) (hG : WG G np no mn) (h32 : 32 ≤ a) {n : Int32} (hq : (pla (gQ G mn) no n) < no) (k : ∀ f, f a = some (.inr (9, mO a ch sv ty ea fa ol (nI ((0, nI (numV (gE G (pla (gQ G mn) no n)) (mn (pla (gQ G mn) no n)) 1000)) : XR).1) sp wr)) → Fr h.1 f a (a + 1) → Q (.inl (some (.int ((0, nI (numV (gE G (pla (gQ G mn) no n)) (mn (pla (gQ G mn) no n)) 1000)) : XR).2))) (f, h.2)) : ∀ (m : Nat) (i : Nat), 1000 - i < m → (i ≤ 1000) → xP S (d + 2) 202 22 [(0, .ref a), (1, .int n), (2, .int (nI (pla (gQ G mn) no n))), (3, .int (nI (numV (gE G (pla (gQ G mn) no n)) (mn (pla (gQ G mn) no n)) i))), (4, .int (nI i))] [] h Q := by
  intro m
  induction m with
  | zero => intro i hm; exact absurd hm (Nat.not_lt_zero _)
  | succ m ih =>
    intro i hm hi
    have no6 := hG.2.1.2
    have cl := xcov_le (gE G (pla (gQ G mn) no n)) (nI i) (mn (pla (gQ G mn) no n))
    have mn5 := (hG.2.2 (pla (gQ G mn) no n) (by omega)).2
    refine xs_f 24 r_202_22 rfl ?_
    refine xs_f 27 r_202_24 rfl ?_
    refine xs_if 54 30 r_202_27 rfl (fun hc1 => ?_) (fun hc1 => ?_)
    · have hc1 := (nI_ltN (nI_k 999) rfl (by omega) (by omega)).mp hc1
      refine xs_f 55 r_202_54 rfl ?_
      refine xs_f 56 r_202_55 rfl ?_
      refine xs_call (lv2 := [(0, _), (1, _)]) r_202_56 rfl rfl (by decide) (xcan_0 rfl rfl (by first | assumption | exact o0) (by rfl)) rfl ?_
      refine xs_f 1 r_152_0 rfl ?_
      refine xs_f 2 r_152_1 rfl ?_
      refine xs_putC 5 r_152_2 rfl o0 (by rfl) (by rfl) (fun f1 o1 y1 => ?_)
      have g2 := g0.fr (y1 _ (by omega))
      have Y3 := (Fr.rf : Fr h.1 h.1 a (a + 1)).tr (y1.wd (by omega) (by omega))
      refine xs_f 6 r_152_5 rfl ?_
      refine xs_ret r_152_6 rfl ?_
      refine xK_v rfl ?_
      refine xs_ret r_202_59 rfl ?_
      have e : i = 1000 := by omega
      subst e
      exact k _ o1 Y3
    · have hc1 := mt (nI_ltN (nI_k 999) rfl (by omega) (by omega)).mpr hc1
      refine xs_f 31 r_202_30 rfl ?_
      refine xs_f 32 r_202_31 rfl ?_
      refine xs_f 33 r_202_32 rfl ?_
      refine xs_f 35 r_202_33 rfl ?_
      refine xs_call (lv2 := [(0, _), (1, _), (2, _)]) r_202_35 rfl rfl (by decide) (xcan_0 rfl rfl (by first | assumption | exact o0) (by rfl)) rfl (m_198 o0 g0 hG h32 (i := (pla (gQ G mn) no n)) (by omega) ?_)
      refine xK_v rfl ?_
      refine xs_if 45 41 r_202_38 rfl (fun hc2 => ?_) (fun hc2 => ?_)
      · have hc2 := (nI_leN rfl (nI_k 0) (by omega) (by omega)).mp hc2
        refine xs_f 46 r_202_45 rfl ?_
        refine xs_f 47 r_202_46 rfl ?_
        refine xs_f 48 (lv2 := [(3, _), (0, _), (1, _), (2, _), (4, _)]) r_202_47 rfl ?_
        refine xs_f 51 (lv2 := [(4, _), (3, _), (0, _), (1, _), (2, _)]) r_202_48 rfl ?_
        refine xs_f 22 r_202_51 rfl ?_
        first
          | exact xP_lv [(0, .ref a), (1, .int n), (2, .int (nI (pla (gQ G mn) no n))), (3, .int (nI (numV (gE G (pla (gQ G mn) no n)) (mn (pla (gQ G mn) no n)) (i + 1)))), (4, .int (nI (i + 1)))] rfl ⟨rfl, rfl, rfl, (by rw [show numV (gE G (pla (gQ G mn) no n)) (mn (pla (gQ G mn) no n)) (i + 1) = numV (gE G (pla (gQ G mn) no n)) (mn (pla (gQ G mn) no n)) i + 1 from by unfold numV; rw [cntB_s, decide_eq_true (by omega)]; rfl, nI_succ]; rfl), (by rw [nI_succ]; rfl), trivial⟩ (ih (i + 1) (by omega) (by omega))
          | exact xP_lv [(0, .ref a), (1, .int n), (2, .int (nI (pla (gQ G mn) no n))), (3, .int (nI (numV (gE G (pla (gQ G mn) no n)) (mn (pla (gQ G mn) no n)) (i + 1)))), (4, .int (nI (i + 1)))] rfl ⟨rfl, rfl, rfl, (by rw [show numV (gE G (pla (gQ G mn) no n)) (mn (pla (gQ G mn) no n)) (i + 1) = numV (gE G (pla (gQ G mn) no n)) (mn (pla (gQ G mn) no n)) i  from by unfold numV; rw [cntB_s, decide_eq_false (by omega)]; rfl]; exact congrArg (fun z => some (Value.int z)) (Int32.add_zero _)), (by rw [nI_succ]; rfl), trivial⟩ (ih (i + 1) (by omega) (by omega))
      · have hc2 := mt (nI_leN rfl (nI_k 0) (by omega) (by omega)).mpr hc2
        refine xs_f 42 r_202_41 rfl ?_
        refine xs_f 46 r_202_42 rfl ?_
        refine xs_f 47 r_202_46 rfl ?_
        refine xs_f 48 (lv2 := [(3, _), (0, _), (1, _), (2, _), (4, _)]) r_202_47 rfl ?_
        refine xs_f 51 (lv2 := [(4, _), (3, _), (0, _), (1, _), (2, _)]) r_202_48 rfl ?_
        refine xs_f 22 r_202_51 rfl ?_
        first
          | exact xP_lv [(0, .ref a), (1, .int n), (2, .int (nI (pla (gQ G mn) no n))), (3, .int (nI (numV (gE G (pla (gQ G mn) no n)) (mn (pla (gQ G mn) no n)) (i + 1)))), (4, .int (nI (i + 1)))] rfl ⟨rfl, rfl, rfl, (by rw [show numV (gE G (pla (gQ G mn) no n)) (mn (pla (gQ G mn) no n)) (i + 1) = numV (gE G (pla (gQ G mn) no n)) (mn (pla (gQ G mn) no n)) i + 1 from by unfold numV; rw [cntB_s, decide_eq_true (by omega)]; rfl, nI_succ]; rfl), (by rw [nI_succ]; rfl), trivial⟩ (ih (i + 1) (by omega) (by omega))
          | exact xP_lv [(0, .ref a), (1, .int n), (2, .int (nI (pla (gQ G mn) no n))), (3, .int (nI (numV (gE G (pla (gQ G mn) no n)) (mn (pla (gQ G mn) no n)) (i + 1)))), (4, .int (nI (i + 1)))] rfl ⟨rfl, rfl, rfl, (by rw [show numV (gE G (pla (gQ G mn) no n)) (mn (pla (gQ G mn) no n)) (i + 1) = numV (gE G (pla (gQ G mn) no n)) (mn (pla (gQ G mn) no n)) i  from by unfold numV; rw [cntB_s, decide_eq_false (by omega)]; rfl]; exact congrArg (fun z => some (Value.int z)) (Int32.add_zero _)), (by rw [nI_succ]; rfl), trivial⟩ (ih (i + 1) (by omega) (by omega))

theorem m_202 {S : XSc} {d : Nat} {h : XH} {Q : XO → XH → Prop} {a : Nat} {G : Nat → Int32} {np no : Nat} {mn : Nat → Nat} {ch sv ty ea fa ol th sp wr : Int32} (o0 : h.1 a = some (.inr (9, mO a ch sv ty ea fa ol th sp wr))) (g0 : IA h.1 0 (a + 1) 288 G) (hG : WG G np no mn) (h32 : 32 ≤ a) {n : Int32} (k : ∀ f, f a = some (.inr (9, mO a ch sv ty ea fa ol (nI (R_q (gQ G mn) no n (fun q => nI (numV q.2.2.2 q.2.2.1 1000))).1) sp wr)) → Fr h.1 f a (a + 1) → Q (.inl (some (.int (R_q (gQ G mn) no n (fun q => nI (numV q.2.2.2 q.2.2.1 1000))).2))) (f, h.2)) : xP S (d + 2) 202 0 [(0, .ref a), (1, .int n)] [] h Q := by
  refine xs_f 1 r_202_0 rfl ?_
  refine xs_f 2 r_202_1 rfl ?_
  refine xs_call (lv2 := [(0, _), (1, _)]) r_202_2 rfl rfl (by decide) (xcan_0 rfl rfl (by first | assumption | exact o0) (by rfl)) rfl (m_158 o0 g0 hG h32 (fun hq => ?_) (fun hq => ?_))
  · have no6 := hG.2.1.2
    have mn5 := (hG.2.2 (pla (gQ G mn) no n) (by omega)).2
    refine xK_v rfl ?_
    refine xs_f 6 (lv2 := [(2, _), (0, _), (1, _)]) r_202_5 rfl ?_
    refine xs_f 7 r_202_6 rfl ?_
    refine xs_f 8 r_202_7 rfl ?_
    refine xs_if 11 17 r_202_8 rfl (fun hc1 => ?_) (fun hc1 => ?_)
    · exact absurd hc1 (nI_m1 rfl (by omega))
    · refine xs_f 18 r_202_17 rfl ?_
      refine xs_f 19 (lv2 := [(3, _), (2, _), (0, _), (1, _)]) r_202_18 rfl ?_
      refine xs_f 20 r_202_19 rfl ?_
      refine xs_f 22 (lv2 := [(4, _), (3, _), (2, _), (0, _), (1, _)]) r_202_20 rfl ?_
      exact xP_lv [(0, .ref a), (1, .int n), (2, .int (nI (pla (gQ G mn) no n))), (3, .int (nI (numV (gE G (pla (gQ G mn) no n)) (mn (pla (gQ G mn) no n)) 0))), (4, .int (nI 0))] rfl ⟨rfl, rfl, rfl, rfl, rfl, trivial⟩ (ml_202 o0 g0 hG h32 hq (fun f o1 y1 => mq k (if_pos hq) o1 y1) 1001 0 (by omega) (by omega))
  · refine xK_v rfl ?_
    refine xs_f 6 (lv2 := [(2, _), (0, _), (1, _)]) r_202_5 rfl ?_
    refine xs_f 7 r_202_6 rfl ?_
    refine xs_f 8 r_202_7 rfl ?_
    refine xs_f 11 r_202_8 rfl ?_
    refine xs_f 12 r_202_11 rfl ?_
    refine xs_f 13 r_202_12 rfl ?_
    refine xs_call (lv2 := [(0, _), (1, _)]) r_202_13 rfl rfl (by decide) (xcan_0 rfl rfl (by first | assumption | exact o0) (by rfl)) rfl ?_
    refine xs_f 1 r_153_0 rfl ?_
    refine xs_f 2 r_153_1 rfl ?_
    refine xs_putC 5 r_153_2 rfl o0 (by rfl) (by rfl) (fun f2 o2 y2 => ?_)
    have g3 := g0.fr (y2 _ (by omega))
    have Y4 := (Fr.rf : Fr h.1 h.1 a (a + 1)).tr (y2.wd (by omega) (by omega))
    refine xs_f 6 r_153_5 rfl ?_
    refine xs_ret r_153_6 rfl ?_
    refine xK_v rfl ?_
    refine xs_ret r_202_16 rfl ?_
    exact mq k (if_neg (by omega)) o2 Y4

theorem m_204 {S : XSc} {d : Nat} {h : XH} {Q : XO → XH → Prop} {a : Nat} {G : Nat → Int32} {np no : Nat} {mn : Nat → Nat} {ch sv ty ea fa ol th sp wr : Int32} (o0 : h.1 a = some (.inr (9, mO a ch sv ty ea fa ol th sp wr))) (g0 : IA h.1 0 (a + 1) 288 G) (hG : WG G np no mn) (h32 : 32 ≤ a) {sc : Nat} (hsc : G 4 = nI sc) (hs : sc ≤ 100000) {p : Int32} (k : ∀ f, f a = some (.inr (9, mO a ch sv ty ea fa ol (nI (R_rec sc (gT G sc) p).1) sp wr)) → Fr h.1 f a (a + 1) → Q (.inl (some (.int (R_rec sc (gT G sc) p).2))) (f, h.2)) : xP S (d + 1) 204 0 [(0, .ref a), (1, .int p)] [] h Q := by
  refine xs_f 1 r_204_0 rfl ?_
  refine xs_f 2 r_204_1 rfl ?_
  refine xs_f 3 r_204_2 rfl ?_
  refine xs_call (lv2 := [(0, _), (1, _), (2, _)]) r_204_3 rfl rfl (by decide) (xcan_1 rfl) rfl (m_150 (fun hb => ?_) (fun hb => ?_))
  · obtain ⟨i, hi, hpi, hcl⟩ := isPl_c (np := 5) ⟨hb.1, (leP (n := 5) (by omega) _).mp hb.2⟩ (by omega)
    refine xK_v rfl ?_
    refine xs_f 9 r_204_6 rfl ?_
    refine xs_f 10 r_204_9 rfl ?_
    refine xs_f 11 r_204_10 rfl ?_
    refine xs_get 14 r_204_11 rfl rfl (by first | assumption | exact o0) (by rfl) ?_
    refine xs_f 15 r_204_14 rfl ?_
    refine xs_aldI 16 r_204_15 (fun _ _ => rfl) rfl rfl rfl (j := 4) (nI_k 4) g0 (by omega) ?_
    rw [hsc]
    refine xs_if 23 19 r_204_16 rfl (fun hc1 => ?_) (fun hc1 => ?_)
    · have hc1 := (nI_leN rfl hpi (by omega) (by omega)).mp hc1
      refine xs_f 24 r_204_23 rfl ?_
      refine xs_f 25 (lv2 := [(2, _), (0, _), (1, _)]) r_204_24 rfl ?_
      refine xs_f 26 r_204_25 rfl ?_
      refine xs_f 55 r_204_26 rfl ?_
      refine xs_f 56 r_204_55 rfl ?_
      refine xs_f 57 r_204_56 rfl ?_
      refine xs_call (lv2 := [(0, _), (1, _)]) r_204_57 rfl rfl (by decide) (xcan_0 rfl rfl (by first | assumption | exact o0) (by rfl)) rfl ?_
      refine xs_f 1 r_153_0 rfl ?_
      refine xs_f 2 r_153_1 rfl ?_
      refine xs_putC 5 r_153_2 rfl o0 (by rfl) (by rfl) (fun f2 o2 y2 => ?_)
      have g3 := g0.fr (y2 _ (by omega))
      have Y4 := (Fr.rf : Fr h.1 h.1 a (a + 1)).tr (y2.wd (by omega) (by omega))
      refine xs_f 6 r_153_5 rfl ?_
      refine xs_ret r_153_6 rfl ?_
      refine xK_v rfl ?_
      refine xs_ret r_204_60 rfl ?_
      first
        | exact mq k ((if_pos (by rw [hpi]; exact ⟨nI_pos' (by omega), nI_lt (by omega) (by omega)⟩)).trans (by rw [hcl]; rfl)) o2 Y4
        | exact mq k (if_neg (fun z => by obtain ⟨j, g1, g2, g3⟩ := isPl_c z (by omega); omega)) o2 Y4
        | exact mq k (if_neg (fun z => hb ⟨z.1, by obtain ⟨j, g1, g2, g3⟩ := isPl_c z (by omega); rw [g2]; exact nI_le (a := j) (b := 4) (by omega) (by omega)⟩)) o2 Y4
    · have hc1 := mt (nI_leN rfl hpi (by omega) (by omega)).mpr hc1
      refine xs_f 20 r_204_19 rfl ?_
      refine xs_f 24 r_204_20 rfl ?_
      refine xs_f 25 (lv2 := [(2, _), (0, _), (1, _)]) r_204_24 rfl ?_
      refine xs_f 26 r_204_25 rfl ?_
      refine xs_f 29 r_204_26 rfl ?_
      refine xs_f 30 r_204_29 rfl ?_
      refine xs_f 31 r_204_30 rfl ?_
      refine xs_get 34 r_204_31 rfl rfl (by first | assumption | exact o0) (by rfl) ?_
      refine xs_f 35 r_204_34 rfl ?_
      refine xs_f 36 r_204_35 rfl ?_
      refine xs_get 39 r_204_36 rfl rfl (by first | assumption | exact o0) (by rfl) ?_
      refine xs_f 40 r_204_39 rfl ?_
      refine xs_aldI 41 r_204_40 (fun _ _ => rfl) rfl rfl rfl (j := 4) (nI_k 4) g0 (by omega) ?_
      rw [hsc]
      refine xs_f 42 r_204_41 rfl ?_
      refine xs_f 43 r_204_42 rfl ?_
      refine xs_f 44 r_204_43 rfl ?_
      refine xs_f 45 r_204_44 rfl ?_
      refine xs_f 46 r_204_45 rfl ?_
      refine xs_irem 47 r_204_46 rfl (by decide) ?_
      refine xs_f 48 r_204_47 rfl ?_
      refine xs_aldI 49 r_204_48 (fun _ _ => rfl) rfl rfl rfl (j := (5 + ((sc - 1 - i) % 5))) (nI_addE (nI_k 5) (nI_remE (nI_subE (nI_subE (x := nI sc) rfl (nI_k 1) (by omega)) hpi (by omega)) (nI_k 5) (by omega) (by omega) (by omega))) g0 (by omega) ?_
      refine xs_call (lv2 := [(0, _), (1, _)]) r_204_49 rfl rfl (by decide) (xcan_0 rfl rfl (by first | assumption | exact o0) (by rfl)) rfl ?_
      refine xs_f 1 r_152_0 rfl ?_
      refine xs_f 2 r_152_1 rfl ?_
      refine xs_putC 5 r_152_2 rfl o0 (by rfl) (by rfl) (fun f5 o5 y5 => ?_)
      have g6 := g0.fr (y5 _ (by omega))
      have Y7 := (Fr.rf : Fr h.1 h.1 a (a + 1)).tr (y5.wd (by omega) (by omega))
      refine xs_f 6 r_152_5 rfl ?_
      refine xs_ret r_152_6 rfl ?_
      refine xK_v rfl ?_
      refine xs_f 60 r_204_52 rfl ?_
      refine xs_ret r_204_60 rfl ?_
      first
        | exact mq k ((if_pos (by rw [hpi]; exact ⟨nI_pos' (by omega), nI_lt (by omega) (by omega)⟩)).trans (by rw [hcl]; rfl)) o5 Y7
        | exact mq k (if_neg (fun z => by obtain ⟨j, g1, g2, g3⟩ := isPl_c z (by omega); omega)) o5 Y7
        | exact mq k (if_neg (fun z => hb ⟨z.1, by obtain ⟨j, g1, g2, g3⟩ := isPl_c z (by omega); rw [g2]; exact nI_le (a := j) (b := 4) (by omega) (by omega)⟩)) o5 Y7
  · refine xK_v rfl ?_
    refine xs_f 23 r_204_6 rfl ?_
    refine xs_f 24 r_204_23 rfl ?_
    refine xs_f 25 (lv2 := [(2, _), (0, _), (1, _)]) r_204_24 rfl ?_
    refine xs_f 26 r_204_25 rfl ?_
    refine xs_f 55 r_204_26 rfl ?_
    refine xs_f 56 r_204_55 rfl ?_
    refine xs_f 57 r_204_56 rfl ?_
    refine xs_call (lv2 := [(0, _), (1, _)]) r_204_57 rfl rfl (by decide) (xcan_0 rfl rfl (by first | assumption | exact o0) (by rfl)) rfl ?_
    refine xs_f 1 r_153_0 rfl ?_
    refine xs_f 2 r_153_1 rfl ?_
    refine xs_putC 5 r_153_2 rfl o0 (by rfl) (by rfl) (fun f8 o8 y8 => ?_)
    have g9 := g0.fr (y8 _ (by omega))
    have Y10 := (Fr.rf : Fr h.1 h.1 a (a + 1)).tr (y8.wd (by omega) (by omega))
    refine xs_f 6 r_153_5 rfl ?_
    refine xs_ret r_153_6 rfl ?_
    refine xK_v rfl ?_
    refine xs_ret r_204_60 rfl ?_
    first
      | exact mq k ((if_pos (by rw [hpi]; exact ⟨nI_pos' (by omega), nI_lt (by omega) (by omega)⟩)).trans (by rw [hcl]; rfl)) o8 Y10
      | exact mq k (if_neg (fun z => by obtain ⟨j, g1, g2, g3⟩ := isPl_c z (by omega); omega)) o8 Y10
      | exact mq k (if_neg (fun z => hb ⟨z.1, by obtain ⟨j, g1, g2, g3⟩ := isPl_c z (by omega); rw [g2]; exact nI_le (a := j) (b := 4) (by omega) (by omega)⟩)) o8 Y10

theorem m_216 {S : XSc} {d : Nat} {h : XH} {Q : XO → XH → Prop} {a : Nat} {G : Nat → Int32} {np no : Nat} {mn : Nat → Nat} {ch sv ty ea fa ol th sp wr : Int32} (o0 : h.1 a = some (.inr (9, mO a ch sv ty ea fa ol th sp wr))) (g0 : IA h.1 0 (a + 1) 288 G) (hG : WG G np no mn) (h32 : 32 ≤ a) {c : Int32} (k : ∀ f, f a = some (.inr (9, mO a ch sv ty ea fa ol (nI (R_bin (fun j => xsum (fun i => G (30 + 9 * i + j - 1)) np) c).1) sp wr)) → Fr h.1 f a (a + 1) → Q (.inl (some (.int (R_bin (fun j => xsum (fun i => G (30 + 9 * i + j - 1)) np) c).2))) (f, h.2)) : xP S (d + 1) 216 0 [(0, .ref a), (1, .int c)] [] h Q := by
  refine xs_f 1 r_216_0 rfl ?_
  refine xs_f 2 r_216_1 rfl ?_
  refine xs_f 4 r_216_2 rfl ?_
  refine xs_call (lv2 := [(0, _), (1, _), (2, _)]) r_216_4 rfl rfl (by decide) (xcan_1 rfl) rfl (m_150 (fun hb => ?_) (fun hb => ?_))
  · obtain ⟨j, h1, h9, hcj⟩ := xconf_nI hb
    have hcl : c.toNatClampNeg = j := by rw [hcj]; exact nI_clamp (by omega)
    refine xK_v rfl ?_
    refine xs_f 10 r_216_7 rfl ?_
    refine xs_f 11 r_216_10 rfl ?_
    refine xs_f 12 r_216_11 rfl ?_
    refine xs_f 14 r_216_12 rfl ?_
    refine xs_f 15 r_216_14 rfl ?_
    subst hcj
    refine xs_call (lv2 := [(0, _), (1, _), (2, _)]) r_216_15 rfl rfl (by decide) (xcan_0 rfl rfl (by first | assumption | exact o0) (by rfl)) rfl (m_215 o0 g0 hG h32 (z := 30) (c := j) (by omega) h1 h9 ?_)
    refine xK_v rfl ?_
    refine xs_call (lv2 := [(0, _), (1, _)]) r_216_18 rfl rfl (by decide) (xcan_0 rfl rfl (by first | assumption | exact o0) (by rfl)) rfl ?_
    refine xs_f 1 r_152_0 rfl ?_
    refine xs_f 2 r_152_1 rfl ?_
    refine xs_putC 5 r_152_2 rfl o0 (by rfl) (by rfl) (fun f3 o3 y3 => ?_)
    have g4 := g0.fr (y3 _ (by omega))
    have Y5 := (Fr.rf : Fr h.1 h.1 a (a + 1)).tr (y3.wd (by omega) (by omega))
    refine xs_f 6 r_152_5 rfl ?_
    refine xs_ret r_152_6 rfl ?_
    refine xK_v rfl ?_
    refine xs_f 29 r_216_21 rfl ?_
    refine xs_ret r_216_29 rfl ?_
    first
      | exact mq k ((if_pos hb).trans (by rw [hcl])) o3 Y5
      | exact mq k (if_neg hb) o3 Y5
  · refine xK_v rfl ?_
    refine xs_f 24 r_216_7 rfl ?_
    refine xs_f 25 r_216_24 rfl ?_
    refine xs_f 26 r_216_25 rfl ?_
    refine xs_call (lv2 := [(0, _), (1, _)]) r_216_26 rfl rfl (by decide) (xcan_0 rfl rfl (by first | assumption | exact o0) (by rfl)) rfl ?_
    refine xs_f 1 r_153_0 rfl ?_
    refine xs_f 2 r_153_1 rfl ?_
    refine xs_putC 5 r_153_2 rfl o0 (by rfl) (by rfl) (fun f6 o6 y6 => ?_)
    have g7 := g0.fr (y6 _ (by omega))
    have Y8 := (Fr.rf : Fr h.1 h.1 a (a + 1)).tr (y6.wd (by omega) (by omega))
    refine xs_f 6 r_153_5 rfl ?_
    refine xs_ret r_153_6 rfl ?_
    refine xK_v rfl ?_
    refine xs_ret r_216_29 rfl ?_
    first
      | exact mq k ((if_pos hb).trans (by rw [hcl])) o6 Y8
      | exact mq k (if_neg hb) o6 Y8

theorem m_218 {S : XSc} {d : Nat} {h : XH} {Q : XO → XH → Prop} {a : Nat} {G : Nat → Int32} {np no : Nat} {mn : Nat → Nat} {ch sv ty ea fa ol th sp wr : Int32} (o0 : h.1 a = some (.inr (9, mO a ch sv ty ea fa ol th sp wr))) (g0 : IA h.1 0 (a + 1) 288 G) (hG : WG G np no mn) (h32 : 32 ≤ a) {c : Int32} (k : ∀ f, f a = some (.inr (9, mO a ch sv ty ea fa ol (nI (R_bin (fun j => xsum (fun i => G (75 + 9 * i + j - 1)) np) c).1) sp wr)) → Fr h.1 f a (a + 1) → Q (.inl (some (.int (R_bin (fun j => xsum (fun i => G (75 + 9 * i + j - 1)) np) c).2))) (f, h.2)) : xP S (d + 1) 218 0 [(0, .ref a), (1, .int c)] [] h Q := by
  refine xs_f 1 r_218_0 rfl ?_
  refine xs_f 2 r_218_1 rfl ?_
  refine xs_f 4 r_218_2 rfl ?_
  refine xs_call (lv2 := [(0, _), (1, _), (2, _)]) r_218_4 rfl rfl (by decide) (xcan_1 rfl) rfl (m_150 (fun hb => ?_) (fun hb => ?_))
  · obtain ⟨j, h1, h9, hcj⟩ := xconf_nI hb
    have hcl : c.toNatClampNeg = j := by rw [hcj]; exact nI_clamp (by omega)
    refine xK_v rfl ?_
    refine xs_f 10 r_218_7 rfl ?_
    refine xs_f 11 r_218_10 rfl ?_
    refine xs_f 12 r_218_11 rfl ?_
    refine xs_f 14 r_218_12 rfl ?_
    refine xs_f 15 r_218_14 rfl ?_
    subst hcj
    refine xs_call (lv2 := [(0, _), (1, _), (2, _)]) r_218_15 rfl rfl (by decide) (xcan_0 rfl rfl (by first | assumption | exact o0) (by rfl)) rfl (m_215 o0 g0 hG h32 (z := 75) (c := j) (by omega) h1 h9 ?_)
    refine xK_v rfl ?_
    refine xs_call (lv2 := [(0, _), (1, _)]) r_218_18 rfl rfl (by decide) (xcan_0 rfl rfl (by first | assumption | exact o0) (by rfl)) rfl ?_
    refine xs_f 1 r_152_0 rfl ?_
    refine xs_f 2 r_152_1 rfl ?_
    refine xs_putC 5 r_152_2 rfl o0 (by rfl) (by rfl) (fun f3 o3 y3 => ?_)
    have g4 := g0.fr (y3 _ (by omega))
    have Y5 := (Fr.rf : Fr h.1 h.1 a (a + 1)).tr (y3.wd (by omega) (by omega))
    refine xs_f 6 r_152_5 rfl ?_
    refine xs_ret r_152_6 rfl ?_
    refine xK_v rfl ?_
    refine xs_f 29 r_218_21 rfl ?_
    refine xs_ret r_218_29 rfl ?_
    first
      | exact mq k ((if_pos hb).trans (by rw [hcl])) o3 Y5
      | exact mq k (if_neg hb) o3 Y5
  · refine xK_v rfl ?_
    refine xs_f 24 r_218_7 rfl ?_
    refine xs_f 25 r_218_24 rfl ?_
    refine xs_f 26 r_218_25 rfl ?_
    refine xs_call (lv2 := [(0, _), (1, _)]) r_218_26 rfl rfl (by decide) (xcan_0 rfl rfl (by first | assumption | exact o0) (by rfl)) rfl ?_
    refine xs_f 1 r_153_0 rfl ?_
    refine xs_f 2 r_153_1 rfl ?_
    refine xs_putC 5 r_153_2 rfl o0 (by rfl) (by rfl) (fun f6 o6 y6 => ?_)
    have g7 := g0.fr (y6 _ (by omega))
    have Y8 := (Fr.rf : Fr h.1 h.1 a (a + 1)).tr (y6.wd (by omega) (by omega))
    refine xs_f 6 r_153_5 rfl ?_
    refine xs_ret r_153_6 rfl ?_
    refine xK_v rfl ?_
    refine xs_ret r_218_29 rfl ?_
    first
      | exact mq k ((if_pos hb).trans (by rw [hcl])) o6 Y8
      | exact mq k (if_neg hb) o6 Y8

theorem m_217 {S : XSc} {d : Nat} {h : XH} {Q : XO → XH → Prop} {a : Nat} {G : Nat → Int32} {np no : Nat} {mn : Nat → Nat} {ch sv ty ea fa ol th sp wr : Int32} (o0 : h.1 a = some (.inr (9, mO a ch sv ty ea fa ol th sp wr))) (g0 : IA h.1 0 (a + 1) 288 G) (hG : WG G np no mn) (h32 : 32 ≤ a) {c : Int32} (k : ∀ f, f a = some (.inr (9, mO a ch sv ty ea fa ol (nI (R_bin (fun j => xsum (fun i => G (30 + 9 * i + j - 1)) np) c).1) sp wr)) → Fr h.1 f a (a + 1) → Q (.inl (some (.int (R_bin (fun j => xsum (fun i => G (30 + 9 * i + j - 1)) np) c).2))) (f, h.2)) : xP S (d + 2) 217 0 [(0, .ref a), (1, .int c)] [] h Q := by
  refine xs_f 1 r_217_0 rfl ?_
  refine xs_f 2 r_217_1 rfl ?_
  refine xs_call (lv2 := [(0, _), (1, _)]) r_217_2 rfl rfl (by decide) (xcan_0 rfl rfl (by first | assumption | exact o0) (by rfl)) rfl (m_216 o0 g0 hG h32 (fun f1 o1 y1 => ?_))
  refine xK_v rfl ?_
  refine xs_ret r_217_5 rfl ?_
  exact k _ o1 y1

theorem m_201 {S : XSc} {d : Nat} {h : XH} {Q : XO → XH → Prop} {a : Nat} {G : Nat → Int32} {np no : Nat} {mn : Nat → Nat} {ch sv ty ea fa ol th sp wr : Int32} (o0 : h.1 a = some (.inr (9, mO a ch sv ty ea fa ol th sp wr))) (g0 : IA h.1 0 (a + 1) 288 G) (hG : WG G np no mn) (h32 : 32 ≤ a) {n : Int32} (k : ∀ f, f a = some (.inr (9, mO a ch sv ty ea fa ol (nI (R_mst (gQ G mn) no n).1) sp wr)) → Fr h.1 f a (a + 1) → Q (.inl (some (.int (R_mst (gQ G mn) no n).2))) (f, h.2)) : xP S (d + 3) 201 0 [(0, .ref a), (1, .int n)] [] h Q := by
  refine xs_f 1 r_201_0 rfl ?_
  refine xs_f 2 r_201_1 rfl ?_
  refine xs_call (lv2 := [(0, _), (1, _)]) r_201_2 rfl rfl (by decide) (xcan_0 rfl rfl (by first | assumption | exact o0) (by rfl)) rfl (m_200 o0 g0 hG h32 (fun f1 o1 y1 => ?_))
  refine xK_v rfl ?_
  refine xs_ret r_201_5 rfl ?_
  exact k _ o1 y1

theorem m_220 {S : XSc} {d : Nat} {h : XH} {Q : XO → XH → Prop} {a : Nat} {G : Nat → Int32} {np no : Nat} {mn : Nat → Nat} {ch sv ty ea fa ol th sp wr : Int32} (o0 : h.1 a = some (.inr (9, mO a ch sv ty ea fa ol th sp wr))) (g0 : IA h.1 0 (a + 1) 288 G) (hG : WG G np no mn) (h32 : 32 ≤ a) (k : ∀ f, f a = some (.inr (9, mO a ch sv ty ea fa ol 0 sp wr)) → Fr h.1 f a (a + 1) → Q (.inl (some (.int 1))) (f, h.2)) : xP S d 220 0 [(0, .ref a)] [] h Q := by
  refine xs_f 1 r_220_0 rfl ?_
  refine xs_f 2 r_220_1 rfl ?_
  refine xs_putC 5 r_220_2 rfl o0 (by rfl) (by rfl) (fun f1 o1 y1 => ?_)
  have g2 := g0.fr (y1 _ (by omega))
  have Y3 := (Fr.rf : Fr h.1 h.1 a (a + 1)).tr (y1.wd (by omega) (by omega))
  refine xs_f 6 r_220_5 rfl ?_
  refine xs_ret r_220_6 rfl ?_
  exact k _ o1 Y3

theorem m_232 {S : XSc} {d : Nat} {h : XH} {Q : XO → XH → Prop} {a : Nat} {G : Nat → Int32} {np no : Nat} {mn : Nat → Nat} {ch sv ty ea fa ol th sp wr : Int32} (o0 : h.1 a = some (.inr (9, mO a ch sv ty ea fa ol th sp wr))) (g0 : IA h.1 0 (a + 1) 288 G) (hG : WG G np no mn) (h32 : 32 ≤ a) (hG2 : True) (k : ∀ f, f a = some (.inr (9, mO a ch sv ty ea fa ol (nI (if ea = -1 then ((1, 0) : XR) else (0, ea)).1) sp wr)) → Fr h.1 f a (a + 1) → Q (.inl (some (.int (if ea = -1 then ((1, 0) : XR) else (0, ea)).2))) (f, h.2)) : xP S (d + 1) 232 0 [(0, .ref a)] [] h Q := by
  refine xs_f 1 r_232_0 rfl ?_
  refine xs_get 4 r_232_1 rfl rfl (by first | assumption | exact o0) (by rfl) ?_
  refine xs_f 5 r_232_4 rfl ?_
  refine xs_if 8 16 r_232_5 rfl (fun hc1 => ?_) (fun hc1 => ?_)
  · refine xs_f 9 r_232_8 rfl ?_
    refine xs_f 10 r_232_9 rfl ?_
    refine xs_call (lv2 := [(0, _), (1, _)]) r_232_10 rfl rfl (by decide) (xcan_0 rfl rfl (by first | assumption | exact o0) (by rfl)) rfl ?_
    refine xs_f 1 r_153_0 rfl ?_
    refine xs_f 2 r_153_1 rfl ?_
    refine xs_putC 5 r_153_2 rfl o0 (by rfl) (by rfl) (fun f1 o1 y1 => ?_)
    have g2 := g0.fr (y1 _ (by omega))
    have Y3 := (Fr.rf : Fr h.1 h.1 a (a + 1)).tr (y1.wd (by omega) (by omega))
    refine xs_f 6 r_153_5 rfl ?_
    refine xs_ret r_153_6 rfl ?_
    refine xK_v rfl ?_
    refine xs_f 24 r_232_13 rfl ?_
    refine xs_ret r_232_24 rfl ?_
    first
      | exact mq k (if_pos hc1) o1 Y3
      | exact mq k (if_neg hc1) o1 Y3
  · refine xs_f 17 r_232_16 rfl ?_
    refine xs_f 18 r_232_17 rfl ?_
    refine xs_get 21 r_232_18 rfl rfl (by first | assumption | exact o0) (by rfl) ?_
    refine xs_call (lv2 := [(0, _), (1, _)]) r_232_21 rfl rfl (by decide) (xcan_0 rfl rfl (by first | assumption | exact o0) (by rfl)) rfl ?_
    refine xs_f 1 r_152_0 rfl ?_
    refine xs_f 2 r_152_1 rfl ?_
    refine xs_putC 5 r_152_2 rfl o0 (by rfl) (by rfl) (fun f4 o4 y4 => ?_)
    have g5 := g0.fr (y4 _ (by omega))
    have Y6 := (Fr.rf : Fr h.1 h.1 a (a + 1)).tr (y4.wd (by omega) (by omega))
    refine xs_f 6 r_152_5 rfl ?_
    refine xs_ret r_152_6 rfl ?_
    refine xK_v rfl ?_
    refine xs_ret r_232_24 rfl ?_
    first
      | exact mq k (if_pos hc1) o4 Y6
      | exact mq k (if_neg hc1) o4 Y6

theorem m_233 {S : XSc} {d : Nat} {h : XH} {Q : XO → XH → Prop} {a : Nat} {G : Nat → Int32} {np no : Nat} {mn : Nat → Nat} {ch sv ty ea fa ol th sp wr : Int32} (o0 : h.1 a = some (.inr (9, mO a ch sv ty ea fa ol th sp wr))) (g0 : IA h.1 0 (a + 1) 288 G) (hG : WG G np no mn) (h32 : 32 ≤ a) (hG2 : True) (k : ∀ f, f a = some (.inr (9, mO a ch sv ty ea fa ol (nI (if fa = -1 then ((1, 0) : XR) else (0, fa)).1) sp wr)) → Fr h.1 f a (a + 1) → Q (.inl (some (.int (if fa = -1 then ((1, 0) : XR) else (0, fa)).2))) (f, h.2)) : xP S (d + 1) 233 0 [(0, .ref a)] [] h Q := by
  refine xs_f 1 r_233_0 rfl ?_
  refine xs_get 4 r_233_1 rfl rfl (by first | assumption | exact o0) (by rfl) ?_
  refine xs_f 5 r_233_4 rfl ?_
  refine xs_if 8 16 r_233_5 rfl (fun hc1 => ?_) (fun hc1 => ?_)
  · refine xs_f 9 r_233_8 rfl ?_
    refine xs_f 10 r_233_9 rfl ?_
    refine xs_call (lv2 := [(0, _), (1, _)]) r_233_10 rfl rfl (by decide) (xcan_0 rfl rfl (by first | assumption | exact o0) (by rfl)) rfl ?_
    refine xs_f 1 r_153_0 rfl ?_
    refine xs_f 2 r_153_1 rfl ?_
    refine xs_putC 5 r_153_2 rfl o0 (by rfl) (by rfl) (fun f1 o1 y1 => ?_)
    have g2 := g0.fr (y1 _ (by omega))
    have Y3 := (Fr.rf : Fr h.1 h.1 a (a + 1)).tr (y1.wd (by omega) (by omega))
    refine xs_f 6 r_153_5 rfl ?_
    refine xs_ret r_153_6 rfl ?_
    refine xK_v rfl ?_
    refine xs_f 24 r_233_13 rfl ?_
    refine xs_ret r_233_24 rfl ?_
    first
      | exact mq k (if_pos hc1) o1 Y3
      | exact mq k (if_neg hc1) o1 Y3
  · refine xs_f 17 r_233_16 rfl ?_
    refine xs_f 18 r_233_17 rfl ?_
    refine xs_get 21 r_233_18 rfl rfl (by first | assumption | exact o0) (by rfl) ?_
    refine xs_call (lv2 := [(0, _), (1, _)]) r_233_21 rfl rfl (by decide) (xcan_0 rfl rfl (by first | assumption | exact o0) (by rfl)) rfl ?_
    refine xs_f 1 r_152_0 rfl ?_
    refine xs_f 2 r_152_1 rfl ?_
    refine xs_putC 5 r_152_2 rfl o0 (by rfl) (by rfl) (fun f4 o4 y4 => ?_)
    have g5 := g0.fr (y4 _ (by omega))
    have Y6 := (Fr.rf : Fr h.1 h.1 a (a + 1)).tr (y4.wd (by omega) (by omega))
    refine xs_f 6 r_152_5 rfl ?_
    refine xs_ret r_152_6 rfl ?_
    refine xK_v rfl ?_
    refine xs_ret r_233_24 rfl ?_
    first
      | exact mq k (if_pos hc1) o4 Y6
      | exact mq k (if_neg hc1) o4 Y6

theorem m_239 {S : XSc} {d : Nat} {h : XH} {Q : XO → XH → Prop} {a : Nat} {G : Nat → Int32} {np no : Nat} {mn : Nat → Nat} {ch sv ty ea fa ol th sp wr : Int32} (o0 : h.1 a = some (.inr (9, mO a ch sv ty ea fa ol th sp wr))) (g0 : IA h.1 0 (a + 1) 288 G) (hG : WG G np no mn) (h32 : 32 ≤ a) (hG2 : True) (k : ∀ f, f a = some (.inr (9, mO a ch sv ty ea fa ol (nI ((0, ch) : XR).1) sp wr)) → Fr h.1 f a (a + 1) → Q (.inl (some (.int ((0, ch) : XR).2))) (f, h.2)) : xP S (d + 1) 239 0 [(0, .ref a)] [] h Q := by
  refine xs_f 1 r_239_0 rfl ?_
  refine xs_f 2 r_239_1 rfl ?_
  refine xs_get 5 r_239_2 rfl rfl (by first | assumption | exact o0) (by rfl) ?_
  refine xs_call (lv2 := [(0, _), (1, _)]) r_239_5 rfl rfl (by decide) (xcan_0 rfl rfl (by first | assumption | exact o0) (by rfl)) rfl ?_
  refine xs_f 1 r_152_0 rfl ?_
  refine xs_f 2 r_152_1 rfl ?_
  refine xs_putC 5 r_152_2 rfl o0 (by rfl) (by rfl) (fun f1 o1 y1 => ?_)
  have g2 := g0.fr (y1 _ (by omega))
  have Y3 := (Fr.rf : Fr h.1 h.1 a (a + 1)).tr (y1.wd (by omega) (by omega))
  refine xs_f 6 r_152_5 rfl ?_
  refine xs_ret r_152_6 rfl ?_
  refine xK_v rfl ?_
  refine xs_ret r_239_8 rfl ?_
  exact k _ o1 Y3

