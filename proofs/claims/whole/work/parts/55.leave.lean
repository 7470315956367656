/-! the reference: leaving -/
def rmS (G : Nat → Int32) (x r k : Nat) : Nat → Int32 := fun j => if 138 + 25 * x + 5 * r ≤ j ∧ j < k then G (j + 5) else G j
theorem rmS_s {G : Nat → Int32} {x r k : Nat} (hk : 138 + 25 * x + 5 * r ≤ k) : xw (rmS G x r k) k (G (k + 5)) = rmS G x r (k + 1) := funext fun x => by
  unfold xw rmS
  (repeat' split) <;> first | rfl | (exfalso; omega) | (congr 1; omega)
def rmG (G : Nat → Int32) (x r m : Nat) : Nat → Int32 := xw (rmS G x r (138 + 25 * x + 20)) (132 + x) (nI (m - 1))
theorem ml_176 {S : XSc} {d : Nat} {h : XH} {Q : XO → XH → Prop} {a : Nat} {G : Nat → Int32} {ch sv ty ea fa ol th sp wr : Int32} (o0 : h.1 a = some (.inr (9, mO a ch sv ty ea fa ol th sp wr))) (g0 : IA h.1 0 (a + 1) 288 G) (h32 : 32 ≤ a) {x r mm : Nat} (hx : x < 6) (hr : r < 5) (hmm : G (132 + x) = nI mm) (hm0 : 1 ≤ mm) (k : ∀ f, IA f 0 (a + 1) 288 (rmG G x r mm) → Fr h.1 f (a + 1) (a + 2) → Q (.inl none) (f, h.2)) : ∀ (m : Nat) (z : Nat) (f : Nat → Option XE), 138 + 25 * x + 20 - z < m → (138 + 25 * x + 5 * r ≤ z) → (z ≤ 138 + 25 * x + 20) → (IA f 0 (a + 1) 288 (rmS G x r z)) → (Fr h.1 f (a + 1) (a + 2)) → xP S (d + 1) 176 6 [(0, .ref a), (1, .int (nI x)), (2, .int (nI r)), (3, .int (nI z))] [] (f, h.2) Q := by
  intro m
  induction m with
  | zero => intro z f hm; exact absurd hm (Nat.not_lt_zero _)
  | succ m ih =>
    intro z f hm hz1 hz g9 hF
    have o9 := (hF a (by omega)).trans o0
    have hmz : rmS G x r z (132 + x) = nI mm := (if_neg (by omega)).trans hmm
    have hgz : rmS G x r z (z + 5) = G (z + 5) := if_neg (by omega)
    refine xs_f 7 r_176_6 rfl ?_
    refine xs_f 8 r_176_7 rfl ?_
    refine xs_f 9 r_176_8 rfl ?_
    refine xs_call (lv2 := [(0, _), (1, _)]) r_176_9 rfl rfl (by decide) (xcan_1 rfl) rfl ?_
    refine xs_f 3 r_159_0 rfl ?_
    refine xs_f 5 r_159_3 rfl ?_
    refine xs_f 6 r_159_5 rfl ?_
    refine xs_f 7 r_159_6 rfl ?_
    refine xs_f 8 r_159_7 rfl ?_
    refine xs_f 9 r_159_8 rfl ?_
    refine xs_f 10 r_159_9 rfl ?_
    refine xs_f 11 r_159_10 rfl ?_
    refine xs_f 12 r_159_11 rfl ?_
    refine xs_ret r_159_12 rfl ?_
    refine xK_v rfl ?_
    refine xs_f 14 r_176_12 rfl ?_
    refine xs_f 15 r_176_14 rfl ?_
    refine xs_f 16 r_176_15 rfl ?_
    refine xs_f 17 r_176_16 rfl ?_
    refine xs_if 40 20 r_176_17 rfl (fun hc1 => ?_) (fun hc1 => ?_)
    · have hc1 := (nI_leN (nI_subE (nI_addE (nI_addE (nI_addE (nI_k 138) (nI_mulE (nI_k 25) rfl)) (nI_mulE (nI_k 5) (nI_k 0))) (nI_k 25)) (nI_k 5) (by omega)) rfl (by omega) (by omega)).mp hc1
      refine xs_f 41 r_176_40 rfl ?_
      refine xs_get 44 r_176_41 rfl rfl (by first | assumption | exact o9) (by rfl) ?_
      refine xs_f 47 r_176_44 rfl ?_
      refine xs_f 48 r_176_47 rfl ?_
      refine xs_f 49 r_176_48 rfl ?_
      refine xs_f 50 r_176_49 rfl ?_
      refine xs_aldI 51 r_176_50 (fun _ _ => rfl) rfl rfl rfl (j := (132 + x)) (nI_addE (nI_k 132) rfl) g9 (by omega) ?_
      rw [hmz]
      refine xs_f 52 r_176_51 rfl ?_
      refine xs_f 53 r_176_52 rfl ?_
      refine xs_astI 54 r_176_53 (fun _ _ => rfl) rfl rfl rfl (j := (132 + x)) (nI_addE (nI_k 132) rfl) g9 (by omega) (fun f1 g1 y1 => ?_)
      have o2 := (y1 _ (by omega)).trans o9
      have Y3 := hF.tr (y1.wd (by omega) (by omega))
      refine xs_ret r_176_54 rfl ?_
      have e : z = 138 + 25 * x + 20 := by omega
      subst e
      exact k _ (by unfold rmG; rw [← nI_subE (x := nI mm) (y := 1) (a := mm) (b := 1) rfl rfl (by omega)]; exact g1) Y3
    · have hc1 := mt (nI_leN (nI_subE (nI_addE (nI_addE (nI_addE (nI_k 138) (nI_mulE (nI_k 25) rfl)) (nI_mulE (nI_k 5) (nI_k 0))) (nI_k 25)) (nI_k 5) (by omega)) rfl (by omega) (by omega)).mpr hc1
      refine xs_f 21 r_176_20 rfl ?_
      refine xs_get 24 r_176_21 rfl rfl (by first | assumption | exact o9) (by rfl) ?_
      refine xs_f 25 r_176_24 rfl ?_
      refine xs_f 26 r_176_25 rfl ?_
      refine xs_get 29 r_176_26 rfl rfl (by first | assumption | exact o9) (by rfl) ?_
      refine xs_f 30 r_176_29 rfl ?_
      refine xs_f 31 r_176_30 rfl ?_
      refine xs_f 32 r_176_31 rfl ?_
      refine xs_aldI 33 r_176_32 (fun _ _ => rfl) rfl rfl rfl (j := (z + 5)) (nI_addE rfl (nI_k 5)) g9 (by omega) ?_
      rw [hgz]
      refine xs_astI 34 r_176_33 (fun _ _ => rfl) rfl rfl rfl (j := z) rfl g9 (by omega) (fun f4 g4 y4 => ?_)
      have o5 := (y4 _ (by omega)).trans o9
      have Y6 := hF.tr (y4.wd (by omega) (by omega))
      refine xs_f 37 (lv2 := [(3, _), (0, _), (1, _), (2, _)]) r_176_34 rfl ?_
      refine xs_f 6 r_176_37 rfl ?_
      exact xP_lv [(0, .ref a), (1, .int (nI x)), (2, .int (nI r)), (3, .int (nI (z + 1)))] rfl ⟨rfl, rfl, rfl, (by rw [nI_succ]; rfl), trivial⟩ (ih (z + 1) _ (by omega) (by omega) (by omega) (by rw [rmS_s hz1] at g4; exact g4) Y6)

theorem m_176 {S : XSc} {d : Nat} {h : XH} {Q : XO → XH → Prop} {a : Nat} {G : Nat → Int32} {ch sv ty ea fa ol th sp wr : Int32} (o0 : h.1 a = some (.inr (9, mO a ch sv ty ea fa ol th sp wr))) (g0 : IA h.1 0 (a + 1) 288 G) (h32 : 32 ≤ a) {x r mm : Nat} (hx : x < 6) (hr : r < 5) (hmm : G (132 + x) = nI mm) (hm0 : 1 ≤ mm) (k : ∀ f, IA f 0 (a + 1) 288 (rmG G x r mm) → Fr h.1 f (a + 1) (a + 2) → Q (.inl none) (f, h.2)) : xP S (d + 1) 176 0 [(0, .ref a), (1, .int (nI x)), (2, .int (nI r))] [] h Q := by
  refine xs_f 1 r_176_0 rfl ?_
  refine xs_f 2 r_176_1 rfl ?_
  refine xs_call (lv2 := [(0, _), (1, _)]) r_176_2 rfl rfl (by decide) (xcan_1 rfl) rfl ?_
  refine xs_f 3 r_159_0 rfl ?_
  refine xs_f 5 r_159_3 rfl ?_
  refine xs_f 6 r_159_5 rfl ?_
  refine xs_f 7 r_159_6 rfl ?_
  refine xs_f 8 r_159_7 rfl ?_
  refine xs_f 9 r_159_8 rfl ?_
  refine xs_f 10 r_159_9 rfl ?_
  refine xs_f 11 r_159_10 rfl ?_
  refine xs_f 12 r_159_11 rfl ?_
  refine xs_ret r_159_12 rfl ?_
  refine xK_v rfl ?_
  refine xs_f 6 (lv2 := [(3, _), (0, _), (1, _), (2, _)]) r_176_5 rfl ?_
  exact xP_lv [(0, .ref a), (1, .int (nI x)), (2, .int (nI r)), (3, .int (nI (138 + 25 * x + 5 * r)))] rfl ⟨rfl, rfl, rfl, (congrArg (fun z => some (Value.int z)) (nI_addE (nI_addE (nI_k 138) (nI_mulE (nI_k 25) rfl)) (nI_mulE (nI_k 5) rfl))), trivial⟩ (ml_176 o0 g0 h32 hx hr hmm hm0 k (138 + 25 * x + 21) (138 + 25 * x + 5 * r) h.1 (by omega) (by omega) (by omega) ((g0).ex (fun j _ => (if_neg (by omega)).symm)) Fr.rf)

/-- player i leaves the question at x, which has m estimates -/
def wd1 (G : Nat → Int32) (i x m : Nat) : Nat → Int32 := if rnk (gE G x) m (nI i) < m then rmG (xw G (10 + i) (G (10 + i) + (gE G x (rnk (gE G x) m (nI i))).2.2.2.2)) x (rnk (gE G x) m (nI i)) m else G
def wdN (G : Nat → Int32) (i : Nat) (mn : Nat → Nat) : Nat → (Nat → Int32)
  | 0 => G
  | x + 1 => wd1 (wdN G i mn x) i x (mn x)
def hasM (G : Nat → Int32) (i : Nat) (mn : Nat → Nat) (x : Nat) : Bool := decide (rnk (gE G x) (mn x) (nI i) < mn x)
def mnW (G : Nat → Int32) (i : Nat) (mn : Nat → Nat) (n x : Nat) : Nat := if x < n then (bif hasM G i mn x then mn x - 1 else mn x) else mn x
theorem wd1_out {G : Nat → Int32} {i x m j : Nat} (hj : j ≠ 10 + i) (h1 : j ≠ 132 + x) (h2 : j < 138 + 25 * x ∨ 138 + 25 * x + 20 ≤ j) : wd1 G i x m j = G j := by
  unfold wd1
  split
  · unfold rmG rmS
    rw [xw_n h1, if_neg (by omega), xw_n hj]
  · rfl
theorem wdN_out {G : Nat → Int32} {i : Nat} {mn : Nat → Nat} {j : Nat} (hj : j ≠ 10 + i) : ∀ {n : Nat}, (j < 132 ∨ (132 + n ≤ j ∧ j < 138) ∨ 138 + 25 * n ≤ j) → wdN G i mn n j = G j
  | 0, _ => rfl
  | n + 1, h => by
    show wd1 _ _ _ _ _ = _
    rw [wd1_out hj (by omega) (by omega), wdN_out hj (by omega)]
theorem wdN_E {G : Nat → Int32} {i : Nat} {mn : Nat → Nat} {x : Nat} (hi : i < 5) : gE (wdN G i mn x) x = gE G x := funext fun r => by
  unfold gE
  rw [wdN_out (by omega) (by omega), wdN_out (by omega) (by omega), wdN_out (by omega) (by omega), wdN_out (by omega) (by omega), wdN_out (by omega) (by omega)]
theorem rnk_le (E : Nat → XEst) (m : Nat) (p : Int32) : rnk E m p ≤ m := fnd_le _ _
theorem wdN_W {G : Nat → Int32} {np no i : Nat} {mn : Nat → Nat} (hG : WG G np no mn) (hi : i < 5) : ∀ {n : Nat}, n ≤ 6 → WG (wdN G i mn n) np no (mnW G i mn n) := by
  intro n hn
  refine ⟨⟨(wdN_out (by omega) (by omega)).trans hG.1.1, hG.1.2⟩, ⟨(wdN_out (by omega) (by omega)).trans hG.2.1.1, hG.2.1.2⟩, ?_⟩
  induction n with
  | zero => intro x hx; exact ⟨(hG.2.2 x hx).1.trans (by unfold mnW; rw [if_neg (by omega)]), by unfold mnW; rw [if_neg (by omega)]; exact (hG.2.2 x hx).2⟩
  | succ n ih =>
    intro x hx
    obtain ⟨e1, e2⟩ := ih (by omega) x hx
    have hb := (hG.2.2 x hx).2
    by_cases z : x = n
    · subst z
      have e3 : wdN G i mn (x + 1) = wd1 (wdN G i mn x) i x (mn x) := rfl
      rw [e3]
      unfold wd1 mnW
      rw [if_pos (Nat.lt_succ_self _), wdN_E hi]
      unfold hasM
      by_cases c : rnk (gE G x) (mn x) (nI i) < mn x
      · rw [if_pos c, decide_eq_true c, cond_true]
        unfold rmG
        rw [xw_s]
        exact ⟨rfl, by omega⟩
      · rw [if_neg c, decide_eq_false c, cond_false]
        refine ⟨?_, hb⟩
        rw [wdN_out (by omega) (by omega)]
        exact (hG.2.2 x hx).1
    · have e4 : mnW G i mn (n + 1) x = mnW G i mn n x := by
        unfold mnW
        by_cases c : x < n
        · rw [if_pos c, if_pos (by omega)]
        · rw [if_neg c, if_neg (by omega)]
      rw [e4]
      refine ⟨?_, e2⟩
      rw [← e1]
      exact wd1_out (by omega) (by omega) (by omega)
theorem ml_177 {S : XSc} {d : Nat} {h : XH} {Q : XO → XH → Prop} {a : Nat} {G : Nat → Int32} {np no : Nat} {mn : Nat → Nat} {ch sv ty ea fa ol th sp wr : Int32} (o0 : h.1 a = some (.inr (9, mO a ch sv ty ea fa ol th sp wr))) (g0 : IA h.1 0 (a + 1) 288 G) (hG : WG G np no mn) (h32 : 32 ≤ a) {i : Nat} {p : Int32} (hi : i < 5) (hpi : p = nI i) (k : ∀ f, f a = some (.inr (9, mO a ch sv ty ea fa ol th sp wr)) → IA f 0 (a + 1) 288 (wdN G i mn no) → Fr h.1 f (a + 1) (a + 2) → xP S (d + 2) 177 102 [(0, .ref a), (1, .int p), (2, .int (nI (cntB (hasM G i mn) no))), (3, .int (nI no))] [] (f, h.2) Q) : ∀ (m : Nat) (x : Nat) (f : Nat → Option XE), no - x < m → (x ≤ no) → (f a = some (.inr (9, mO a ch sv ty ea fa ol th sp wr))) → (IA f 0 (a + 1) 288 (wdN G i mn x)) → (Fr h.1 f (a + 1) (a + 2)) → xP S (d + 2) 177 37 [(0, .ref a), (1, .int p), (2, .int (nI (cntB (hasM G i mn) x))), (3, .int (nI x))] [] (f, h.2) Q := by
  intro m
  induction m with
  | zero => intro x f hm; exact absurd hm (Nat.not_lt_zero _)
  | succ m ih =>
    intro x f hm hx o9 g9 hF
    have np5 := hG.1.2
    have no6 := hG.2.1.2
    have hcl := cntB_le (hasM G i mn) x
    have hGx := wdN_W (i := i) hG hi (n := x) (by omega)
    refine xs_f 38 r_177_37 rfl ?_
    refine xs_f 39 r_177_38 rfl ?_
    refine xs_get 42 r_177_39 rfl rfl (by first | assumption | exact o9) (by rfl) ?_
    refine xs_f 43 r_177_42 rfl ?_
    refine xs_aldI 44 r_177_43 (fun _ _ => rfl) rfl rfl rfl (j := 1) (nI_k 1) g9 (by omega) ?_
    rw [hGx.2.1.1]
    refine xs_if 102 47 r_177_44 rfl (fun hc1 => ?_) (fun hc1 => ?_)
    · have hc1 := (nI_leN rfl rfl (by omega) (by omega)).mp hc1
      have e : x = no := by omega
      subst e
      exact k _ o9 g9 hF
    · have hc1 := mt (nI_leN rfl rfl (by omega) (by omega)).mpr hc1
      have mn5 := (hG.2.2 x (by omega)).2
      have hmx : mnW G i mn x x = mn x := if_neg (by omega)
      have hEx := wdN_E (G := G) (mn := mn) (x := x) hi
      have hrl := rnk_le (gE G x) (mn x) (nI i)
      refine xs_f 48 r_177_47 rfl ?_
      refine xs_f 49 r_177_48 rfl ?_
      refine xs_f 50 r_177_49 rfl ?_
      refine xs_call (lv2 := [(0, _), (1, _), (2, _)]) r_177_50 rfl rfl (by decide) (xcan_0 rfl rfl (by first | assumption | exact o9) (by rfl)) rfl (xP_lv [(0, .ref a), (1, .int (nI x)), (2, .int (nI i))] rfl ⟨rfl, rfl, (congrArg (fun z => some (Value.int z)) hpi), trivial⟩ (m_160 (h := (f, h.2)) o9 g9 hGx h32 (i := x) (by omega) (fun hr => ?_) (fun hr => ?_)))
      · rw [hEx, hmx] at hr ⊢
        refine xK_v rfl ?_
        refine xs_f 55 (lv2 := [(4, _), (0, _), (1, _), (2, _), (3, _)]) r_177_53 rfl ?_
        refine xs_f 57 r_177_55 rfl ?_
        refine xs_f 58 r_177_57 rfl ?_
        refine xs_if 96 61 r_177_58 rfl (fun hc2 => ?_) (fun hc2 => ?_)
        · exact absurd hc2 (nI_m1 rfl (by omega))
        · refine xs_f 62 r_177_61 rfl ?_
          refine xs_get 65 r_177_62 rfl rfl (by first | assumption | exact o9) (by rfl) ?_
          refine xs_f 67 r_177_65 rfl ?_
          refine xs_f 68 r_177_67 rfl ?_
          refine xs_f 69 r_177_68 rfl ?_
          refine xs_f 70 r_177_69 rfl ?_
          refine xs_aldI 71 r_177_70 (fun _ _ => rfl) rfl rfl rfl (j := (10 + i)) (nI_addE (nI_k 10) hpi) g9 (by omega) ?_
          (repeat first | rw [xw_s] | rw [xw_n (by omega)])
          refine xs_f 72 r_177_71 rfl ?_
          refine xs_get 75 r_177_72 rfl rfl (by first | assumption | exact o9) (by rfl) ?_
          refine xs_f 76 r_177_75 rfl ?_
          refine xs_f 78 r_177_76 rfl ?_
          refine xs_call (lv2 := [(0, _), (1, _)]) r_177_78 rfl rfl (by decide) (xcan_1 rfl) rfl ?_
          refine xs_f 3 r_159_0 rfl ?_
          refine xs_f 5 r_159_3 rfl ?_
          refine xs_f 6 r_159_5 rfl ?_
          refine xs_f 7 r_159_6 rfl ?_
          refine xs_f 8 r_159_7 rfl ?_
          refine xs_f 9 r_159_8 rfl ?_
          refine xs_f 10 r_159_9 rfl ?_
          refine xs_f 11 r_159_10 rfl ?_
          refine xs_f 12 r_159_11 rfl ?_
          refine xs_ret r_159_12 rfl ?_
          refine xK_v rfl ?_
          refine xs_f 82 r_177_81 rfl ?_
          refine xs_f 83 r_177_82 rfl ?_
          refine xs_aldI 84 r_177_83 (fun _ _ => rfl) rfl rfl rfl (j := (((138 + (25 * x)) + (5 * (rnk (gE G x) (mn x) (nI i)))) + 4)) (nI_addE (nI_addE (nI_addE (nI_k 138) (nI_mulE (nI_k 25) rfl)) (nI_mulE (nI_k 5) rfl)) (nI_k 4)) g9 (by omega) ?_
          (repeat first | rw [xw_s] | rw [xw_n (by omega)])
          refine xs_f 85 r_177_84 rfl ?_
          refine xs_astI 86 r_177_85 (fun _ _ => rfl) rfl rfl rfl (j := (10 + i)) (nI_addE (nI_k 10) hpi) g9 (by omega) (fun f2 g2 y2 => ?_)
          have o3 := (y2 _ (by omega)).trans o9
          have Y4 := hF.tr (y2.wd (by omega) (by omega))
          refine xs_f 87 r_177_86 rfl ?_
          refine xs_f 88 r_177_87 rfl ?_
          refine xs_f 90 r_177_88 rfl ?_
          have hmz : xw (wdN G i mn x) (10 + i) (wdN G i mn x (10 + i) + (gE G x (rnk (gE G x) (mn x) (nI i))).2.2.2.2) (132 + x) = nI (mn x) := by
            rw [xw_n (by omega), wdN_out (by omega) (by omega)]
            exact (hG.2.2 x (by omega)).1
          have hst : wdN G i mn x (138 + 25 * x + 5 * (rnk (gE G x) (mn x) (nI i)) + 4) = (gE G x (rnk (gE G x) (mn x) (nI i))).2.2.2.2 := wdN_out (by omega) (by omega)
          rw [hst] at g2
          refine xs_call (lv2 := [(0, _), (1, _), (2, _)]) r_177_90 rfl rfl (by decide) (xcan_0 rfl rfl (by first | assumption | exact o3) (by rfl)) rfl (m_176 (h := (_, h.2)) o3 g2 h32 (x := x) (r := (rnk (gE G x) (mn x) (nI i))) (mm := mn x) (by omega) (by omega) hmz (by omega) (fun f5 g5 y5 => ?_))
          have o6 := (y5 _ (by omega)).trans o3
          have Y7 := Y4.tr (y5.wd (by omega) (by omega))
          refine xK_0 rfl ?_
          refine xs_f 96 (lv2 := [(2, _), (4, _), (0, _), (1, _), (3, _)]) r_177_93 rfl ?_
          refine xs_f 99 (lv2 := [(3, _), (2, _), (4, _), (0, _), (1, _)]) r_177_96 rfl ?_
          refine xs_f 37 r_177_99 rfl ?_
          first
            | exact xP_lv [(0, .ref a), (1, .int p), (2, .int (nI (cntB (hasM G i mn) (x + 1)))), (3, .int (nI (x + 1)))] rfl ⟨rfl, rfl, (by rw [show cntB (hasM G i mn) (x + 1) = cntB (hasM G i mn) x + 1 from by rw [cntB_s, show hasM G i mn x = true from decide_eq_true (by omega)]; rfl, nI_succ]; rfl), (by rw [nI_succ]; rfl), trivial⟩ (ih (x + 1) _ (by omega) (by omega) o6 (by
              show IA _ 0 (a + 1) 288 (wd1 _ _ _ _)
              unfold wd1
              rw [wdN_E (by omega), if_pos hr]
              exact g5) Y7)
            | exact xP_lv [(0, .ref a), (1, .int p), (2, .int (nI (cntB (hasM G i mn) (x + 1)))), (3, .int (nI (x + 1)))] rfl ⟨rfl, rfl, (by rw [show cntB (hasM G i mn) (x + 1) = cntB (hasM G i mn) x  from by rw [cntB_s, show hasM G i mn x = false from decide_eq_false (by omega)]; rfl]; rfl), (by rw [nI_succ]; rfl), trivial⟩ (ih (x + 1) _ (by omega) (by omega) o6 (by
              show IA _ 0 (a + 1) 288 (wd1 _ _ _ _)
              unfold wd1
              rw [wdN_E (by omega), if_neg (by omega)]
              exact g5) Y7)
      · rw [hEx, hmx] at hr
        refine xK_v rfl ?_
        refine xs_f 55 (lv2 := [(4, _), (0, _), (1, _), (2, _), (3, _)]) r_177_53 rfl ?_
        refine xs_f 57 r_177_55 rfl ?_
        refine xs_f 58 r_177_57 rfl ?_
        refine xs_f 96 r_177_58 rfl ?_
        refine xs_f 99 (lv2 := [(3, _), (4, _), (0, _), (1, _), (2, _)]) r_177_96 rfl ?_
        refine xs_f 37 r_177_99 rfl ?_
        first
          | exact xP_lv [(0, .ref a), (1, .int p), (2, .int (nI (cntB (hasM G i mn) (x + 1)))), (3, .int (nI (x + 1)))] rfl ⟨rfl, rfl, (by rw [show cntB (hasM G i mn) (x + 1) = cntB (hasM G i mn) x + 1 from by rw [cntB_s, show hasM G i mn x = true from decide_eq_true (by omega)]; rfl, nI_succ]; rfl), (by rw [nI_succ]; rfl), trivial⟩ (ih (x + 1) _ (by omega) (by omega) o9 (by
            show IA _ 0 (a + 1) 288 (wd1 _ _ _ _)
            unfold wd1
            rw [wdN_E (by omega), if_pos hr]
            exact g9) hF)
          | exact xP_lv [(0, .ref a), (1, .int p), (2, .int (nI (cntB (hasM G i mn) (x + 1)))), (3, .int (nI (x + 1)))] rfl ⟨rfl, rfl, (by rw [show cntB (hasM G i mn) (x + 1) = cntB (hasM G i mn) x  from by rw [cntB_s, show hasM G i mn x = false from decide_eq_false (by omega)]; rfl]; rfl), (by rw [nI_succ]; rfl), trivial⟩ (ih (x + 1) _ (by omega) (by omega) o9 (by
            show IA _ 0 (a + 1) 288 (wd1 _ _ _ _)
            unfold wd1
            rw [wdN_E (by omega), if_neg (by omega)]
            exact g9) hF)

def cLea (np : Nat) (pl : Nat → XPl) (p : Int32) : Nat := if isPl np p then (bif (pl p.toNatClampNeg).2.2.1 then 2 else 0) else 1
theorem m_177 {S : XSc} {d : Nat} {h : XH} {Q : XO → XH → Prop} {a : Nat} {G : Nat → Int32} {np no : Nat} {mn : Nat → Nat} {ch sv ty ea fa ol th sp wr : Int32} (o0 : h.1 a = some (.inr (9, mO a ch sv ty ea fa ol th sp wr))) (g0 : IA h.1 0 (a + 1) 288 G) (hG : WG G np no mn) (h32 : 32 ≤ a) {p : Int32} (kF : (cLea np (gP G) p) ≠ 0 → ∀ f, f a = some (.inr (9, mO a ch sv ty ea fa ol (nI (cLea np (gP G) p)) sp wr)) → IA f 0 (a + 1) 288 G → Fm h.1 f a → Q (.inl (some (.int 0))) (f, h.2)) (kS : (cLea np (gP G) p) = 0 → ∀ i, i < np → p = nI i → ∀ f, f a = some (.inr (9, mO a ch sv ty ea fa ol 0 sp wr)) → IA f 0 (a + 1) 288 (xw (wdN G i mn no) (15 + i) 1) → Fm h.1 f a → Q (.inl (some (.int (nI (cntB (hasM G i mn) no))))) (f, h.2)) : xP S (d + 2) 177 0 [(0, .ref a), (1, .int p)] [] h Q := by
  have np5 := hG.1.2
  have no6 := hG.2.1.2
  refine xs_f 1 r_177_0 rfl ?_
  refine xs_f 2 r_177_1 rfl ?_
  refine xs_call (lv2 := [(0, _), (1, _)]) r_177_2 rfl rfl (by decide) (xcan_0 rfl rfl (by first | assumption | exact o0) (by rfl)) rfl (m_157 o0 g0 hG h32 (fun hp => ?_) (fun hp => ?_))
  · obtain ⟨i, hi, hpi, hcl⟩ := isPl_c hp (by have := hG.1.2; omega)
    have np5 := hG.1.2
    refine xK_v rfl ?_
    refine xs_f 14 r_177_5 rfl ?_
    refine xs_f 15 r_177_14 rfl ?_
    refine xs_get 18 r_177_15 rfl rfl (by first | assumption | exact o0) (by rfl) ?_
    refine xs_f 20 r_177_18 rfl ?_
    refine xs_f 21 r_177_20 rfl ?_
    refine xs_f 22 r_177_21 rfl ?_
    refine xs_aldI 23 r_177_22 (fun _ _ => rfl) rfl rfl rfl (j := (15 + i)) (nI_addE (nI_k 15) hpi) g0 (by omega) ?_
    (repeat first | rw [xw_s] | rw [xw_n (by omega)])
    skip
    refine xs_f 24 r_177_23 rfl ?_
    refine xs_if 27 33 r_177_24 rfl (fun he => ?_) (fun he => ?_)
    · refine xs_f 28 r_177_27 rfl ?_
      refine xs_f 29 r_177_28 rfl ?_
      refine xs_call (lv2 := [(0, _), (1, _)]) r_177_29 rfl rfl (by decide) (xcan_0 rfl rfl (by first | assumption | exact o0) (by rfl)) rfl ?_
      refine xs_f 1 r_153_0 rfl ?_
      refine xs_f 2 r_153_1 rfl ?_
      refine xs_putC 5 r_153_2 rfl o0 (by rfl) (by rfl) (fun f2 o2 y2 => ?_)
      have g3 := g0.fr (y2 _ (by omega))
      have Y4 := (Fm.rf : Fm h.1 h.1 a).w y2 (by omega)
      refine xs_f 6 r_153_5 rfl ?_
      refine xs_ret r_153_6 rfl ?_
      refine xK_v rfl ?_
      refine xs_ret r_177_32 rfl ?_
      first
        | exact mF kF (if_neg hp) (by decide) o2 g3 Y4
        | exact mF kF ((if_pos hp).trans (by rw [hcl]; show (bif decide (G (15 + i) = 1) then 2 else 0) = 2; rw [decide_eq_true he]; rfl)) (by decide) o2 g3 Y4
    · refine xs_f 34 r_177_33 rfl ?_
      refine xs_f 35 (lv2 := [(2, _), (0, _), (1, _)]) r_177_34 rfl ?_
      refine xs_f 36 r_177_35 rfl ?_
      refine xs_f 37 (lv2 := [(3, _), (2, _), (0, _), (1, _)]) r_177_36 rfl ?_
      refine xP_lv [(0, .ref a), (1, .int p), (2, .int (nI (cntB (hasM G i mn) 0))), (3, .int (nI 0))] rfl ⟨rfl, rfl, rfl, rfl, trivial⟩ (ml_177 o0 g0 hG h32 (by omega) hpi (fun f1 o1 g1 y1 => ?_) (no + 1) 0 h.1 (by omega) (by omega) o0 g0 Fr.rf)
      have Y1 : Fm h.1 f1 a := Fm.rf.w y1 (by omega)
      refine xs_f 103 r_177_102 rfl ?_
      refine xs_get 106 r_177_103 rfl rfl (by first | assumption | exact o1) (by rfl) ?_
      refine xs_f 108 r_177_106 rfl ?_
      refine xs_f 109 r_177_108 rfl ?_
      refine xs_f 110 r_177_109 rfl ?_
      refine xs_f 111 r_177_110 rfl ?_
      refine xs_astI 112 r_177_111 (fun _ _ => rfl) rfl rfl rfl (j := (15 + i)) (nI_addE (nI_k 15) hpi) g1 (by omega) (fun f1 g1 y1 => ?_)
      have o2 := (y1 _ (by omega)).trans o1
      have Y3 := Y1.w y1 (by omega)
      refine xs_f 113 r_177_112 rfl ?_
      refine xs_f 114 r_177_113 rfl ?_
      refine xs_call (lv2 := [(0, _), (1, _)]) r_177_114 rfl rfl (by decide) (xcan_0 rfl rfl (by first | assumption | exact o2) (by rfl)) rfl ?_
      refine xs_f 1 r_152_0 rfl ?_
      refine xs_f 2 r_152_1 rfl ?_
      refine xs_putC 5 r_152_2 rfl o2 (by rfl) (by rfl) (fun f4 o4 y4 => ?_)
      have g5 := g1.fr (y4 _ (by omega))
      have Y6 := Y3.w y4 (by omega)
      refine xs_f 6 r_152_5 rfl ?_
      refine xs_ret r_152_6 rfl ?_
      refine xK_v rfl ?_
      refine xs_ret r_177_117 rfl ?_
      exact kS ((if_pos hp).trans (by rw [hcl]; show (bif decide (G (15 + i) = 1) then 2 else 0) = 0; rw [decide_eq_false he]; rfl)) i hi hpi _ o4 g5 Y6
  · refine xK_v rfl ?_
    refine xs_f 8 r_177_5 rfl ?_
    refine xs_f 9 r_177_8 rfl ?_
    refine xs_f 10 r_177_9 rfl ?_
    refine xs_call (lv2 := [(0, _), (1, _)]) r_177_10 rfl rfl (by decide) (xcan_0 rfl rfl (by first | assumption | exact o0) (by rfl)) rfl ?_
    refine xs_f 1 r_153_0 rfl ?_
    refine xs_f 2 r_153_1 rfl ?_
    refine xs_putC 5 r_153_2 rfl o0 (by rfl) (by rfl) (fun f5 o5 y5 => ?_)
    have g6 := g0.fr (y5 _ (by omega))
    have Y7 := (Fm.rf : Fm h.1 h.1 a).w y5 (by omega)
    refine xs_f 6 r_153_5 rfl ?_
    refine xs_ret r_153_6 rfl ?_
    refine xK_v rfl ?_
    refine xs_ret r_177_13 rfl ?_
    first
      | exact mF kF (if_neg hp) (by decide) o5 g6 Y7
      | exact mF kF ((if_pos hp).trans (by rw [hcl]; show (bif decide (G (15 + i) = 1) then 2 else 0) = 2; rw [decide_eq_true he]; rfl)) (by decide) o5 g6 Y7

