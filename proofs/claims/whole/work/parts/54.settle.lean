/-! the reference: settling, postponing, leaving; what is kept -/
theorem xw_e {α : Type} {f : Nat → α} {k : Nat} {x y : α} (h : x = y) : xw f k x = xw f k y := by rw [h]
def sOut (x : Nat) : Prop := x < 3 ∨ (4 ≤ x ∧ x < 10) ∨ (15 ≤ x ∧ x < 20) ∨ 120 ≤ x
theorem s1G_out {G : Nat → Int32} {i j : Nat} {e : XEst} {wt t : Int32} (hi : i < 5) (h1 : 1 ≤ j) (h9 : j ≤ 9) {x : Nat} (hx : sOut x) : s1G G i j e wt t x = G x := by
  unfold sOut at hx
  unfold s1G s1A
  split
  · rw [xw_n (by omega), xw_n (by omega), xw_n (by omega), xw_n (by omega), xw_n (by omega)]
  · rw [xw_n (by omega), xw_n (by omega), xw_n (by omega)]
/-- after the first n estimates of the first question -/
def stG (G : Nat → Int32) (wt t : Int32) : Nat → (Nat → Int32)
  | 0 => G
  | n + 1 => s1G (stG G wt t n) (gE G 0 n).1.toNatClampNeg (gE G 0 n).2.2.2.1.toNatClampNeg (gE G 0 n) wt t
/-- its players and confidences are right -/
def okQ (E : Nat → XEst) (many : Nat) : Prop := ∀ r, r < many → (∃ i, i < 5 ∧ (E r).1 = nI i) ∧ xconf (E r).2.2.2.1
theorem stG_out {G : Nat → Int32} {wt t : Int32} {x : Nat} (hx : sOut x) : ∀ {n : Nat}, okQ (gE G 0) n → stG G wt t n x = G x
  | 0, _ => rfl
  | n + 1, h => by
    obtain ⟨⟨i, hi, e1⟩, hc⟩ := h n (Nat.lt_succ_self _)
    obtain ⟨j, h1, h9, e2⟩ := xconf_nI hc
    show s1G _ _ _ _ _ _ x = G x
    rw [s1G_out (by rw [e1, nI_clamp (by omega)]; exact hi) (by rw [e2, nI_clamp (by omega)]; exact h1) (by rw [e2, nI_clamp (by omega)]; exact h9) hx, stG_out hx (fun r hr => h r (by omega))]
def hitM (e : XEst) (t : Int32) : Bool := decide (xdistM e t ≤ 0)
def gSet (G : Nat → Int32) (no m sc : Nat) (t : Int32) : Nat → Int32 := xw (xw (xw (drF (stG G (G 126) t m) (no - 1)) 1 (nI (no - 1))) (5 + sc % 5) t) 4 (nI (sc + 1))
def cSet (no : Nat) (t : Int32) : Nat := (if 0 ≤ t ∧ t ≤ 999 then (if no = 0 then 2 else 0) else 1)
theorem ml_172 {S : XSc} {d : Nat} {h : XH} {Q : XO → XH → Prop} {a : Nat} {G : Nat → Int32} {np no : Nat} {mn : Nat → Nat} {ch sv ty ea fa ol th sp wr : Int32} (o0 : h.1 a = some (.inr (9, mO a ch sv ty ea fa ol th sp wr))) (g0 : IA h.1 0 (a + 1) 288 G) (hG : WG G np no mn) (h32 : 32 ≤ a) {sc : Nat} (hsc : G 4 = nI sc) (hs : sc ≤ 100000) (hok : okQ (gE G 0) (mn 0)) {t : Int32} (k : ∀ f, IA f 0 (a + 1) 288 (stG G (G 126) t (mn 0)) → Fr h.1 f (a + 1) (a + 2) → xP S (d + 2) 172 74 [(0, .ref a), (1, .int t), (2, .int (nI (cntB (fun r => hitM (gE G 0 r) t) (mn 0)))), (3, .int (nI (mn 0)))] [] (f, h.2) Q) : ∀ (m : Nat) (r : Nat) (f : Nat → Option XE), mn 0 - r < m → (r ≤ mn 0) → (IA f 0 (a + 1) 288 (stG G (G 126) t r)) → (Fr h.1 f (a + 1) (a + 2)) → xP S (d + 2) 172 36 [(0, .ref a), (1, .int t), (2, .int (nI (cntB (fun r => hitM (gE G 0 r) t) r))), (3, .int (nI r))] [] (f, h.2) Q := by
  intro m
  induction m with
  | zero => intro r f hm; exact absurd hm (Nat.not_lt_zero _)
  | succ m ih =>
    intro r f hm hr g9 hF
    have mn5 := (hG.2.2 0 (by omega)).2
    have o9 := (hF a (by omega)).trans o0
    have hokr : okQ (gE G 0) r := fun x hx => hok x (by omega)
    have hcl := cntB_le (fun r => hitM (gE G 0 r) t) r
    refine xs_f 37 r_172_36 rfl ?_
    refine xs_f 38 r_172_37 rfl ?_
    refine xs_get 41 r_172_38 rfl rfl (by first | assumption | exact o9) (by rfl) ?_
    refine xs_f 44 r_172_41 rfl ?_
    refine xs_aldI 45 r_172_44 (fun _ _ => rfl) rfl rfl rfl (j := 132) (nI_k 132) g9 (by omega) ?_
    rw [stG_out (by unfold sOut; omega) hokr]
    rw [show G 132 = nI (mn 0) from (hG.2.2 0 (by omega)).1]
    refine xs_if 74 48 r_172_45 rfl (fun hc1 => ?_) (fun hc1 => ?_)
    · have hc1 := (nI_leN rfl rfl (by omega) (by omega)).mp hc1
      have e : mn 0 = r := by omega
      rw [e] at k
      exact k _ g9 hF
    · have hc1 := mt (nI_leN rfl rfl (by omega) (by omega)).mpr hc1
      obtain ⟨⟨i, hi5, hpl⟩, hc⟩ := hok r (by omega)
      obtain ⟨j, h1, h9, hcf⟩ := xconf_nI hc
      have hpl2 : stG G (G 126) t r ((138 + 25 * 0 + 5 * r) + 0) = nI i := (stG_out (wt := G 126) (t := t) (n := r) (x := (138 + 25 * 0 + 5 * r) + 0) (by unfold sOut; omega) hokr).trans hpl
      have hcf2 : stG G (G 126) t r ((138 + 25 * 0 + 5 * r) + 3) = nI j := (stG_out (wt := G 126) (t := t) (n := r) (x := (138 + 25 * 0 + 5 * r) + 3) (by unfold sOut; omega) hokr).trans hcf
      have hev : ((nI i, (stG G (G 126) t r ((138 + 25 * 0 + 5 * r) + 1), (stG G (G 126) t r ((138 + 25 * 0 + 5 * r) + 2), (nI j, stG G (G 126) t r ((138 + 25 * 0 + 5 * r) + 4))))) : XEst) = gE G 0 r := by
        rw [stG_out (wt := G 126) (t := t) (n := r) (x := (138 + 25 * 0 + 5 * r) + 1) (by unfold sOut; omega) hokr, stG_out (wt := G 126) (t := t) (n := r) (x := (138 + 25 * 0 + 5 * r) + 2) (by unfold sOut; omega) hokr, stG_out (wt := G 126) (t := t) (n := r) (x := (138 + 25 * 0 + 5 * r) + 4) (by unfold sOut; omega) hokr, ← hpl, ← hcf]
        rfl
      have hst : stG G (G 126) t (r + 1) = s1G (stG G (G 126) t r) i j (gE G 0 r) (G 126) t := by
        show s1G _ _ _ _ _ _ = _
        rw [hpl, hcf, nI_clamp (by omega), nI_clamp (by omega)]
      refine xs_f 49 r_172_48 rfl ?_
      refine xs_f 50 r_172_49 rfl ?_
      refine xs_f 51 r_172_50 rfl ?_
      refine xs_f 52 r_172_51 rfl ?_
      refine xs_call (lv2 := [(0, _), (1, _)]) r_172_52 rfl rfl (by decide) (xcan_1 rfl) rfl ?_
      refine xs_f 3 r_159_0 rfl ?_
      refine xs_f 5 r_159_3 rfl ?_
      refine xs_f 6 r_159_5 rfl ?_
      refine xs_f 7 r_159_6 rfl ?_
      refine xs_f 8 r_159_7 rfl ?_
      refine xs_f 9 r_159_8 rfl ?_
      refine xs_f 10 r_159_9 rfl ?_
      refine xs_f 11 r_159_10 rfl ?_
      refine xs_f 12 r_159_11 rfl ?_
      refine xs_ret r_159_12 rfl ?_
      refine xK_v rfl ?_
      refine xs_f 56 r_172_55 rfl ?_
      refine xs_get 59 r_172_56 rfl rfl (by first | assumption | exact o9) (by rfl) ?_
      refine xs_f 61 r_172_59 rfl ?_
      refine xs_aldI 62 r_172_61 (fun _ _ => rfl) rfl rfl rfl (j := 126) (nI_k 126) g9 (by omega) ?_
      rw [stG_out (by unfold sOut; omega) hokr]
      refine xs_f 63 r_172_62 rfl ?_
      refine xs_call (lv2 := [(0, _), (1, _), (2, _), (3, _)]) r_172_63 rfl rfl (by decide) (xcan_0 rfl rfl (by first | assumption | exact o9) (by rfl)) rfl (xP_lv [(0, .ref a), (1, .int (nI (138 + 25 * 0 + 5 * r))), (2, .int (G 126)), (3, .int t)] rfl ⟨rfl, (congrArg (fun z => some (Value.int z)) (nI_addE (nI_addE (nI_k 138) (nI_mulE (nI_k 25) (nI_k 0))) (nI_mulE (nI_k 5) rfl))), rfl, rfl, trivial⟩ (m_169 (h := (f, h.2)) o9 g9 h32 (u := (138 + 25 * 0 + 5 * r)) (by omega) (by omega) hi5 h1 h9 hpl2 hcf2 (fun hh f5 g5 y5 => ?_) (fun hh f5 g5 y5 => ?_)))
      · rw [hev] at hh g5
        refine xK_v rfl ?_
        refine xs_f 67 r_172_66 rfl ?_
        refine xs_f 68 (lv2 := [(2, _), (0, _), (1, _), (3, _)]) r_172_67 rfl ?_
        refine xs_f 71 (lv2 := [(3, _), (2, _), (0, _), (1, _)]) r_172_68 rfl ?_
        refine xs_f 36 r_172_71 rfl ?_
        first
          | exact xP_lv [(0, .ref a), (1, .int t), (2, .int (nI (cntB (fun r => hitM (gE G 0 r) t) (r + 1)))), (3, .int (nI (r + 1)))] rfl ⟨rfl, rfl, (by rw [show cntB (fun r => hitM (gE G 0 r) t) (r + 1) = cntB (fun r => hitM (gE G 0 r) t) r + 1 from by rw [cntB_s, show hitM (gE G 0 r) t = true from decide_eq_true hh]; rfl, nI_succ]; rfl), (by rw [nI_succ]; rfl), trivial⟩ (ih (r + 1) f5 (by omega) (by omega) (by rw [hst]; exact g5) (hF.tr y5))
          | exact xP_lv [(0, .ref a), (1, .int t), (2, .int (nI (cntB (fun r => hitM (gE G 0 r) t) (r + 1)))), (3, .int (nI (r + 1)))] rfl ⟨rfl, rfl, (by rw [show cntB (fun r => hitM (gE G 0 r) t) (r + 1) = cntB (fun r => hitM (gE G 0 r) t) r  from by rw [cntB_s, show hitM (gE G 0 r) t = false from decide_eq_false hh]; rfl]; exact congrArg (fun z => some (Value.int z)) (Int32.add_zero _)), (by rw [nI_succ]; rfl), trivial⟩ (ih (r + 1) f5 (by omega) (by omega) (by rw [hst]; exact g5) (hF.tr y5))
      · rw [hev] at hh g5
        refine xK_v rfl ?_
        refine xs_f 67 r_172_66 rfl ?_
        refine xs_f 68 (lv2 := [(2, _), (0, _), (1, _), (3, _)]) r_172_67 rfl ?_
        refine xs_f 71 (lv2 := [(3, _), (2, _), (0, _), (1, _)]) r_172_68 rfl ?_
        refine xs_f 36 r_172_71 rfl ?_
        first
          | exact xP_lv [(0, .ref a), (1, .int t), (2, .int (nI (cntB (fun r => hitM (gE G 0 r) t) (r + 1)))), (3, .int (nI (r + 1)))] rfl ⟨rfl, rfl, (by rw [show cntB (fun r => hitM (gE G 0 r) t) (r + 1) = cntB (fun r => hitM (gE G 0 r) t) r + 1 from by rw [cntB_s, show hitM (gE G 0 r) t = true from decide_eq_true hh]; rfl, nI_succ]; rfl), (by rw [nI_succ]; rfl), trivial⟩ (ih (r + 1) f5 (by omega) (by omega) (by rw [hst]; exact g5) (hF.tr y5))
          | exact xP_lv [(0, .ref a), (1, .int t), (2, .int (nI (cntB (fun r => hitM (gE G 0 r) t) (r + 1)))), (3, .int (nI (r + 1)))] rfl ⟨rfl, rfl, (by rw [show cntB (fun r => hitM (gE G 0 r) t) (r + 1) = cntB (fun r => hitM (gE G 0 r) t) r  from by rw [cntB_s, show hitM (gE G 0 r) t = false from decide_eq_false hh]; rfl]; exact congrArg (fun z => some (Value.int z)) (Int32.add_zero _)), (by rw [nI_succ]; rfl), trivial⟩ (ih (r + 1) f5 (by omega) (by omega) (by rw [hst]; exact g5) (hF.tr y5))

theorem m_172 {S : XSc} {d : Nat} {h : XH} {Q : XO → XH → Prop} {a : Nat} {G : Nat → Int32} {np no : Nat} {mn : Nat → Nat} {ch sv ty ea fa ol th sp wr : Int32} (o0 : h.1 a = some (.inr (9, mO a ch sv ty ea fa ol th sp wr))) (g0 : IA h.1 0 (a + 1) 288 G) (hG : WG G np no mn) (h32 : 32 ≤ a) {sc : Nat} (hsc : G 4 = nI sc) (hs : sc ≤ 100000) (hok : okQ (gE G 0) (mn 0)) {t : Int32} (kF : (cSet no t) ≠ 0 → ∀ f, f a = some (.inr (9, mO a ch sv ty ea fa ol (nI (cSet no t)) sp wr)) → IA f 0 (a + 1) 288 G → Fm h.1 f a → Q (.inl (some (.int 0))) (f, h.2)) (kS : (cSet no t) = 0 → ∀ f, f a = some (.inr (9, mO a ch sv ty ea fa ol 0 sp wr)) → IA f 0 (a + 1) 288 (gSet G no (mn 0) sc t) → Fm h.1 f a → Q (.inl (some (.int (nI (cntB (fun r => hitM (gE G 0 r) t) (mn 0)))))) (f, h.2)) : xP S (d + 3) 172 0 [(0, .ref a), (1, .int t)] [] h Q := by
  have np5 := hG.1.2
  have no6 := hG.2.1.2
  have mn5 := (hG.2.2 0 (by omega)).2
  refine xs_f 1 r_172_0 rfl ?_
  refine xs_f 2 r_172_1 rfl ?_
  refine xs_f 5 r_172_2 rfl ?_
  refine xs_call (lv2 := [(0, _), (1, _), (2, _)]) r_172_5 rfl rfl (by decide) (xcan_1 rfl) rfl (m_150 (fun hb => ?_) (fun hb => ?_))
  · refine xK_v rfl ?_
    refine xs_f 17 r_172_8 rfl ?_
    refine xs_f 18 r_172_17 rfl ?_
    refine xs_get 21 r_172_18 rfl rfl (by first | assumption | exact o0) (by rfl) ?_
    refine xs_f 22 r_172_21 rfl ?_
    refine xs_aldI 23 r_172_22 (fun _ _ => rfl) rfl rfl rfl (j := 1) (nI_k 1) g0 (by omega) ?_
    (repeat first | rw [xw_s] | rw [xw_n (by omega)])
    first | rw [hG.2.1.1] | skip
    refine xs_if 26 32 r_172_23 rfl (fun hn => ?_) (fun hn => ?_)
    · have hn := (nI_eqN rfl (nI_k 0) (by omega) (by omega)).mp hn
      refine xs_f 27 r_172_26 rfl ?_
      refine xs_f 28 r_172_27 rfl ?_
      refine xs_call (lv2 := [(0, _), (1, _)]) r_172_28 rfl rfl (by decide) (xcan_0 rfl rfl (by first | assumption | exact o0) (by rfl)) rfl ?_
      refine xs_f 1 r_153_0 rfl ?_
      refine xs_f 2 r_153_1 rfl ?_
      refine xs_putC 5 r_153_2 rfl o0 (by rfl) (by rfl) (fun f1 o1 y1 => ?_)
      have g2 := g0.fr (y1 _ (by omega))
      have Y3 := (Fm.rf : Fm h.1 h.1 a).w y1 (by omega)
      refine xs_f 6 r_153_5 rfl ?_
      refine xs_ret r_153_6 rfl ?_
      refine xK_v rfl ?_
      refine xs_ret r_172_31 rfl ?_
      first
        | exact mF kF (if_neg hb) (by decide) o1 g2 Y3
        | exact mF kF ((if_pos hb).trans (if_pos (by omega))) (by decide) o1 g2 Y3
    · have hn := mt (nI_eqN rfl (nI_k 0) (by omega) (by omega)).mpr hn
      refine xs_f 33 r_172_32 rfl ?_
      refine xs_f 34 (lv2 := [(2, _), (0, _), (1, _)]) r_172_33 rfl ?_
      refine xs_f 35 r_172_34 rfl ?_
      refine xs_f 36 (lv2 := [(3, _), (2, _), (0, _), (1, _)]) r_172_35 rfl ?_
      refine xP_lv [(0, .ref a), (1, .int t), (2, .int (nI (cntB (fun r => hitM (gE G 0 r) t) 0))), (3, .int (nI 0))] rfl ⟨rfl, rfl, rfl, rfl, trivial⟩ (ml_172 o0 g0 hG h32 hsc hs hok (fun f1 g1 y1 => ?_) (mn 0 + 1) 0 h.1 (by omega) (by omega) g0 Fr.rf)
      have o1 := (y1 a (by omega)).trans o0
      have Y1 : Fm h.1 f1 a := Fm.rf.w y1 (by omega)
      have hn1 : stG G (G 126) t (mn 0) 1 = nI no := (stG_out (by unfold sOut; omega) hok).trans hG.2.1.1
      have hs4 : xw (drF (stG G (G 126) t (mn 0)) (no - 1)) 1 (nI (no - 1)) 4 = nI sc := by
        rw [xw_n (by omega)]
        unfold drF
        rw [if_neg (by omega), if_neg (by omega), if_neg (by omega), if_neg (by omega)]
        exact (stG_out (by unfold sOut; omega) hok).trans hsc
      refine xs_f 75 r_172_74 rfl ?_
      refine xs_call (lv2 := [(0, _)]) r_172_75 rfl rfl (by decide) (xcan_0 rfl rfl (by first | assumption | exact o1) (by rfl)) rfl (m_171 (h := (f1, h.2)) o1 g1 h32 hn1 (by omega) no6 (fun f1 g1 y1 => ?_))
      have o2 := (y1 _ (by omega)).trans o1
      have Y3 := Y1.w y1 (by omega)
      refine xK_0 rfl ?_
      refine xs_f 79 r_172_78 rfl ?_
      refine xs_get 82 r_172_79 rfl rfl (by first | assumption | exact o2) (by rfl) ?_
      refine xs_f 83 r_172_82 rfl ?_
      refine xs_f 84 r_172_83 rfl ?_
      refine xs_get 87 r_172_84 rfl rfl (by first | assumption | exact o2) (by rfl) ?_
      refine xs_f 88 r_172_87 rfl ?_
      refine xs_aldI 89 r_172_88 (fun _ _ => rfl) rfl rfl rfl (j := 4) (nI_k 4) g1 (by omega) ?_
      rw [hs4]
      refine xs_f 90 r_172_89 rfl ?_
      refine xs_irem 91 r_172_90 rfl (by decide) ?_
      refine xs_f 92 r_172_91 rfl ?_
      refine xs_f 93 r_172_92 rfl ?_
      refine xs_astI 94 r_172_93 (fun _ _ => rfl) rfl rfl rfl (j := (5 + (sc % 5))) (nI_addE (nI_k 5) (nI_remE (x := nI sc) rfl (nI_k 5) (by omega) (by omega) (by omega))) g1 (by omega) (fun f4 g4 y4 => ?_)
      have o5 := (y4 _ (by omega)).trans o2
      have Y6 := Y3.w y4 (by omega)
      refine xs_f 95 r_172_94 rfl ?_
      refine xs_get 98 r_172_95 rfl rfl (by first | assumption | exact o5) (by rfl) ?_
      refine xs_f 99 r_172_98 rfl ?_
      refine xs_f 100 r_172_99 rfl ?_
      refine xs_aldI 101 r_172_100 (fun _ _ => rfl) rfl rfl rfl (j := 4) (nI_k 4) g4 (by omega) ?_
      rw [xw_n (by omega), hs4]
      refine xs_f 102 r_172_101 rfl ?_
      refine xs_f 103 r_172_102 rfl ?_
      refine xs_astI 104 r_172_103 (fun _ _ => rfl) rfl rfl rfl (j := 4) (nI_k 4) g4 (by omega) (fun f7 g7 y7 => ?_)
      have o8 := (y7 _ (by omega)).trans o5
      have Y9 := Y6.w y7 (by omega)
      refine xs_f 105 r_172_104 rfl ?_
      refine xs_f 106 r_172_105 rfl ?_
      refine xs_call (lv2 := [(0, _), (1, _)]) r_172_106 rfl rfl (by decide) (xcan_0 rfl rfl (by first | assumption | exact o8) (by rfl)) rfl ?_
      refine xs_f 1 r_152_0 rfl ?_
      refine xs_f 2 r_152_1 rfl ?_
      refine xs_putC 5 r_152_2 rfl o8 (by rfl) (by rfl) (fun f10 o10 y10 => ?_)
      have g11 := g7.fr (y10 _ (by omega))
      have Y12 := Y9.w y10 (by omega)
      refine xs_f 6 r_152_5 rfl ?_
      refine xs_ret r_152_6 rfl ?_
      refine xK_v rfl ?_
      refine xs_ret r_172_109 rfl ?_
      exact kS ((if_pos hb).trans (if_neg (by omega))) _ o10 (by unfold gSet; rw [nI_succ]; exact g11) Y12
  · refine xK_v rfl ?_
    refine xs_f 11 r_172_8 rfl ?_
    refine xs_f 12 r_172_11 rfl ?_
    refine xs_f 13 r_172_12 rfl ?_
    refine xs_call (lv2 := [(0, _), (1, _)]) r_172_13 rfl rfl (by decide) (xcan_0 rfl rfl (by first | assumption | exact o0) (by rfl)) rfl ?_
    refine xs_f 1 r_153_0 rfl ?_
    refine xs_f 2 r_153_1 rfl ?_
    refine xs_putC 5 r_153_2 rfl o0 (by rfl) (by rfl) (fun f4 o4 y4 => ?_)
    have g5 := g0.fr (y4 _ (by omega))
    have Y6 := (Fm.rf : Fm h.1 h.1 a).w y4 (by omega)
    refine xs_f 6 r_153_5 rfl ?_
    refine xs_ret r_153_6 rfl ?_
    refine xK_v rfl ?_
    refine xs_ret r_172_16 rfl ?_
    first
      | exact mF kF (if_neg hb) (by decide) o4 g5 Y6
      | exact mF kF ((if_pos hb).trans (if_pos (by omega))) (by decide) o4 g5 Y6

def Fm7 (f g : Nat → Option XE) (a : Nat) : Prop := ∀ c, (c ≠ a ∧ c ≠ a + 1 ∧ c ≠ a + 7) → g c = f c
theorem Fm7.wd {f g : Nat → Option XE} {a lo hi : Nat} (h : Fm7 f g a) (h1 : lo ≤ a) (h2 : a + 8 ≤ hi) : Fr f g lo hi := fun c hc => h c (by omega)
theorem Fm7.rf {f : Nat → Option XE} {a : Nat} : Fm7 f f a := fun _ _ => rfl
theorem Fm7.tr {f g k : Nat → Option XE} {a : Nat} (h : Fm7 f g a) (h2 : Fm7 g k a) : Fm7 f k a := fun c hc => (h2 c hc).trans (h c hc)
theorem Fm7.w {f g k : Nat → Option XE} {a x : Nat} (h : Fm7 f g a) (y : Fr g k x (x + 1)) (hx : x = a ∨ x = a + 1 ∨ x = a + 7) : Fm7 f k a := fun c hc => (y c (by omega)).trans (h c hc)
theorem mF0 {Q : XO → XH → Prop} {h : XH} {a : Nat} {G Mo : Nat → Int32} {ch sv ty ea fa ol sp wr : Int32} {c c2 : Nat} (k : c ≠ 0 → ∀ f, f a = some (.inr (9, mO a ch sv ty ea fa ol (nI c) sp wr)) → IA f 0 (a + 1) 288 G → IA f 0 (a + 7) 28 Mo → Fm7 h.1 f a → Q (.inl (some (.int 0))) (f, h.2)) (e : c = c2) (h0 : c2 ≠ 0) {f : Nat → Option XE} (o : f a = some (.inr (9, mO a ch sv ty ea fa ol (nI c2) sp wr))) (g : IA f 0 (a + 1) 288 G) (m : IA f 0 (a + 7) 28 Mo) (y : Fm7 h.1 f a) : Q (.inl (some (.int 0))) (f, h.2) := by
  subst e
  exact k h0 f o g m y
def gPst (G : Nat → Int32) (no : Nat) : Nat → Int32 := fun x => if x = 1 then nI no else if x = 120 + (no - 1) then G 120 else if x = 126 + (no - 1) then G 126 else if x = 132 + (no - 1) then G 132 else if 138 + 25 * (no - 1) ≤ x ∧ x < 138 + 25 * (no - 1) + 25 then G (138 + (x - (138 + 25 * (no - 1)))) else drF G (no - 1) x
def gPs0 (G : Nat → Int32) (no n : Nat) : Nat → Int32 := fun x => if x = 1 then nI (no - 1) else if x = 120 + (no - 1) then G 120 else if x = 126 + (no - 1) then G 126 else if x = 132 + (no - 1) then G 132 else if 138 + 25 * (no - 1) ≤ x ∧ x < 138 + 25 * (no - 1) + n then G (138 + (x - (138 + 25 * (no - 1)))) else drF G (no - 1) x
theorem gPs0_s {G : Nat → Int32} {no n : Nat} (h0 : 0 < no) (h6 : no ≤ 6) (hn : n < 25) : xw (gPs0 G no n) (138 + 25 * (no - 1) + 5 * 0 + n) (G (138 + n)) = gPs0 G no (n + 1) := funext fun x => by
  unfold xw gPs0
  (repeat' split) <;> first | rfl | (exfalso; omega) | (congr 1; omega)
theorem gPs0_0 {G : Nat → Int32} {no : Nat} (h0 : 0 < no) (h6 : no ≤ 6) : xw (xw (xw (xw (drF G (no - 1)) 1 (nI (no - 1))) (120 + (no - 1)) (G 120)) (126 + (no - 1)) (G 126)) (132 + (no - 1)) (G 132) = gPs0 G no 0 := funext fun x => by
  unfold xw gPs0
  (repeat' split) <;> first | rfl | (exfalso; omega) | (congr 1; omega)
theorem gPs0_e {G : Nat → Int32} {no : Nat} (h0 : 0 < no) (h6 : no ≤ 6) : xw (gPs0 G no 25) 1 (nI no) = gPst G no := funext fun x => by
  unfold xw gPs0 gPst
  (repeat' split) <;> first | rfl | (exfalso; omega) | (congr 1; omega)
theorem ml_174a {S : XSc} {d : Nat} {h : XH} {Q : XO → XH → Prop} {a : Nat} {G : Nat → Int32} {np no : Nat} {mn : Nat → Nat} {ch sv ty ea fa ol th sp wr : Int32} (o0 : h.1 a = some (.inr (9, mO a ch sv ty ea fa ol th sp wr))) (g0 : IA h.1 0 (a + 1) 288 G) (hG : WG G np no mn) (h32 : 32 ≤ a) {Mo : Nat → Int32} (Mo0 : IA h.1 0 (a + 7) 28 Mo) (k : ∀ f, f a = some (.inr (9, mO a ch sv ty ea fa ol th sp wr)) → IA f 0 (a + 1) 288 G → IA f 0 (a + 7) 28 (fun x => if x = 25 then G 120 else if x = 26 then G 126 else if x = 27 then G 132 else if x < 25 then G (138 + x) else Mo x) → Fm7 h.1 f a → xP S (d + 3) 174 88 [(0, .ref a), (1, .int (nI 25))] [] (f, h.2) Q) : ∀ (m : Nat) (n : Nat) (f : Nat → Option XE), 25 - n < m → (n ≤ 25) → (f a = some (.inr (9, mO a ch sv ty ea fa ol th sp wr))) → (IA f 0 (a + 1) 288 G) → (IA f 0 (a + 7) 28 (fun x => if x = 25 then G 120 else if x = 26 then G 126 else if x = 27 then G 132 else if x < n then G (138 + x) else Mo x)) → (Fm7 h.1 f a) → xP S (d + 3) 174 60 [(0, .ref a), (1, .int (nI n))] [] (f, h.2) Q := by
  intro m
  induction m with
  | zero => intro n f hm; exact absurd hm (Nat.not_lt_zero _)
  | succ m ih =>
    intro n f hm hn o9 g9 m9 hF
    refine xs_f 61 r_174_60 rfl ?_
    refine xs_f 63 r_174_61 rfl ?_
    refine xs_if 88 66 r_174_63 rfl (fun hc1 => ?_) (fun hc1 => ?_)
    · have hc1 := (nI_leN (nI_k 25) rfl (by omega) (by omega)).mp hc1
      have e : n = 25 := by omega
      subst e
      exact k f o9 g9 m9 hF
    · have hc1 := mt (nI_leN (nI_k 25) rfl (by omega) (by omega)).mpr hc1
      refine xs_f 67 r_174_66 rfl ?_
      refine xs_get 70 r_174_67 rfl rfl (by first | assumption | exact o9) (by rfl) ?_
      refine xs_f 71 r_174_70 rfl ?_
      refine xs_f 72 r_174_71 rfl ?_
      refine xs_get 75 r_174_72 rfl rfl (by first | assumption | exact o9) (by rfl) ?_
      refine xs_f 78 r_174_75 rfl ?_
      refine xs_f 79 r_174_78 rfl ?_
      refine xs_f 80 r_174_79 rfl ?_
      refine xs_aldI 81 r_174_80 (fun _ _ => rfl) rfl rfl rfl (j := (138 + n)) (nI_addE (nI_k 138) rfl) g9 (by omega) ?_
      refine xs_astI 82 r_174_81 (fun _ _ => rfl) rfl rfl rfl (j := n) rfl m9 (by omega) (fun f1 Mo1 y1 => ?_)
      have o2 := (y1 _ (by omega)).trans o9
      have g3 := g9.fr (y1 _ (by omega))
      have Y4 := hF.w y1 (by omega)
      refine xs_f 85 (lv2 := [(1, _), (0, _)]) r_174_82 rfl ?_
      refine xs_f 60 r_174_85 rfl ?_
      exact xP_lv [(0, .ref a), (1, .int (nI (n + 1)))] rfl ⟨rfl, (by rw [nI_succ]; rfl), trivial⟩ (ih (n + 1) _ (by omega) (by omega) o2 g3 (Mo1.ex (fun x hx => by unfold xw; (try dsimp only); (repeat' split) <;> first | rfl | (exfalso; omega) | (congr 1; omega))) Y4)

theorem ml_174b {S : XSc} {d : Nat} {h : XH} {Q : XO → XH → Prop} {a : Nat} {G : Nat → Int32} {np no : Nat} {mn : Nat → Nat} {ch sv ty ea fa ol th sp wr : Int32} (o0 : h.1 a = some (.inr (9, mO a ch sv ty ea fa ol th sp wr))) (g0 : IA h.1 0 (a + 1) 288 G) (hG : WG G np no mn) (h32 : 32 ≤ a) {Mo : Nat → Int32} (Mo0 : IA h.1 0 (a + 7) 28 Mo) (h0 : 0 < no) (k : ∀ f, f a = some (.inr (9, mO a ch sv ty ea fa ol th sp wr)) → IA f 0 (a + 1) 288 (gPs0 G no 25) → IA f 0 (a + 7) 28 (fun x => if x = 25 then G 120 else if x = 26 then G 126 else if x = 27 then G 132 else if x < 25 then G (138 + x) else Mo x) → Fm7 h.1 f a → xP S (d + 3) 174 180 [(0, .ref a), (1, .int (nI (no - 1))), (2, .int (nI 25))] [] (f, h.2) Q) : ∀ (m : Nat) (n : Nat) (f : Nat → Option XE), 25 - n < m → (n ≤ 25) → (f a = some (.inr (9, mO a ch sv ty ea fa ol th sp wr))) → (IA f 0 (a + 1) 288 (gPs0 G no n)) → (IA f 0 (a + 7) 28 (fun x => if x = 25 then G 120 else if x = 26 then G 126 else if x = 27 then G 132 else if x < 25 then G (138 + x) else Mo x)) → (Fm7 h.1 f a) → xP S (d + 3) 174 150 [(0, .ref a), (1, .int (nI (no - 1))), (2, .int (nI n))] [] (f, h.2) Q := by
  intro m
  induction m with
  | zero => intro n f hm; exact absurd hm (Nat.not_lt_zero _)
  | succ m ih =>
    intro n f hm hn o9 g9 m9 hF
    have np5 := hG.1.2
    have no6 := hG.2.1.2
    refine xs_f 151 r_174_150 rfl ?_
    refine xs_f 153 r_174_151 rfl ?_
    refine xs_if 180 156 r_174_153 rfl (fun hc1 => ?_) (fun hc1 => ?_)
    · have hc1 := (nI_leN (nI_k 25) rfl (by omega) (by omega)).mp hc1
      have e : n = 25 := by omega
      subst e
      exact k f o9 g9 m9 hF
    · have hc1 := mt (nI_leN (nI_k 25) rfl (by omega) (by omega)).mpr hc1
      refine xs_f 157 r_174_156 rfl ?_
      refine xs_get 160 r_174_157 rfl rfl (by first | assumption | exact o9) (by rfl) ?_
      refine xs_f 161 r_174_160 rfl ?_
      refine xs_f 162 r_174_161 rfl ?_
      refine xs_call (lv2 := [(0, _), (1, _)]) r_174_162 rfl rfl (by decide) (xcan_1 rfl) rfl ?_
      refine xs_f 3 r_159_0 rfl ?_
      refine xs_f 5 r_159_3 rfl ?_
      refine xs_f 6 r_159_5 rfl ?_
      refine xs_f 7 r_159_6 rfl ?_
      refine xs_f 8 r_159_7 rfl ?_
      refine xs_f 9 r_159_8 rfl ?_
      refine xs_f 10 r_159_9 rfl ?_
      refine xs_f 11 r_159_10 rfl ?_
      refine xs_f 12 r_159_11 rfl ?_
      refine xs_ret r_159_12 rfl ?_
      refine xK_v rfl ?_
      refine xs_f 166 r_174_165 rfl ?_
      refine xs_f 167 r_174_166 rfl ?_
      refine xs_f 168 r_174_167 rfl ?_
      refine xs_get 171 r_174_168 rfl rfl (by first | assumption | exact o9) (by rfl) ?_
      refine xs_f 172 r_174_171 rfl ?_
      refine xs_aldI 173 r_174_172 (fun _ _ => rfl) rfl rfl rfl (j := n) rfl m9 (by omega) ?_
      (try dsimp only)
      rw [show (if n = 25 then G 120 else if n = 26 then G 126 else if n = 27 then G 132 else if n < 25 then G (138 + n) else Mo n) = G (138 + n) from by rw [if_neg (by omega), if_neg (by omega), if_neg (by omega), if_pos (by omega)]]
      refine xs_astI 174 r_174_173 (fun _ _ => rfl) rfl rfl rfl (j := (((138 + (25 * (no - 1))) + (5 * 0)) + n)) (nI_addE (nI_addE (nI_addE (nI_k 138) (nI_mulE (nI_k 25) rfl)) (nI_mulE (nI_k 5) (nI_k 0))) rfl) g9 (by omega) (fun f1 g1 y1 => ?_)
      have o2 := (y1 _ (by omega)).trans o9
      have Mo3 := m9.fr (y1 _ (by omega))
      have Y4 := hF.w y1 (by omega)
      refine xs_f 177 (lv2 := [(2, _), (0, _), (1, _)]) r_174_174 rfl ?_
      refine xs_f 150 r_174_177 rfl ?_
      exact xP_lv [(0, .ref a), (1, .int (nI (no - 1))), (2, .int (nI (n + 1)))] rfl ⟨rfl, rfl, (by rw [nI_succ]; rfl), trivial⟩ (ih (n + 1) _ (by omega) (by omega) o2 (by rw [gPs0_s h0 no6 (by omega)] at g1; exact g1) Mo3 Y4)

def cPst (no : Nat) : Nat := if no = 0 then 1 else 0
theorem m_174 {S : XSc} {d : Nat} {h : XH} {Q : XO → XH → Prop} {a : Nat} {G : Nat → Int32} {np no : Nat} {mn : Nat → Nat} {ch sv ty ea fa ol th sp wr : Int32} (o0 : h.1 a = some (.inr (9, mO a ch sv ty ea fa ol th sp wr))) (g0 : IA h.1 0 (a + 1) 288 G) (hG : WG G np no mn) (h32 : 32 ≤ a) {Mo : Nat → Int32} (Mo0 : IA h.1 0 (a + 7) 28 Mo) (kF : cPst no ≠ 0 → ∀ f, f a = some (.inr (9, mO a ch sv ty ea fa ol (nI (cPst no)) sp wr)) → IA f 0 (a + 1) 288 G → IA f 0 (a + 7) 28 Mo → Fm7 h.1 f a → Q (.inl (some (.int 0))) (f, h.2)) (kS : cPst no = 0 → ∀ f Mo, f a = some (.inr (9, mO a ch sv ty ea fa ol 0 sp wr)) → IA f 0 (a + 1) 288 (gPst G no) → IA f 0 (a + 7) 28 Mo → Fm7 h.1 f a → Q (.inl (some (.int (gPst G no 120)))) (f, h.2)) : xP S (d + 3) 174 0 [(0, .ref a)] [] h Q := by
  have np5 := hG.1.2
  have no6 := hG.2.1.2
  refine xs_f 1 r_174_0 rfl ?_
  refine xs_get 4 r_174_1 rfl rfl (by first | assumption | exact o0) (by rfl) ?_
  refine xs_f 5 r_174_4 rfl ?_
  refine xs_aldI 6 r_174_5 (fun _ _ => rfl) rfl rfl rfl (j := 1) (nI_k 1) g0 (by omega) ?_
  rw [hG.2.1.1]
  refine xs_if 9 15 r_174_6 rfl (fun hn => ?_) (fun hn => ?_)
  · have hn := (nI_eqN rfl (nI_k 0) (by omega) (by omega)).mp hn
    refine xs_f 10 r_174_9 rfl ?_
    refine xs_f 11 r_174_10 rfl ?_
    refine xs_call (lv2 := [(0, _), (1, _)]) r_174_11 rfl rfl (by decide) (xcan_0 rfl rfl (by first | assumption | exact o0) (by rfl)) rfl ?_
    refine xs_f 1 r_153_0 rfl ?_
    refine xs_f 2 r_153_1 rfl ?_
    refine xs_putC 5 r_153_2 rfl o0 (by rfl) (by rfl) (fun f1 o1 y1 => ?_)
    have g2 := g0.fr (y1 _ (by omega))
    have Mo3 := Mo0.fr (y1 _ (by omega))
    have Y4 := (Fm7.rf : Fm7 h.1 h.1 a).w y1 (by omega)
    refine xs_f 6 r_153_5 rfl ?_
    refine xs_ret r_153_6 rfl ?_
    refine xK_v rfl ?_
    refine xs_ret r_174_14 rfl ?_
    exact mF0 kF (if_pos (by omega)) (by decide) o1 g2 Mo3 Y4
  · have hn := mt (nI_eqN rfl (nI_k 0) (by omega) (by omega)).mpr hn
    refine xs_f 16 r_174_15 rfl ?_
    refine xs_get 19 r_174_16 rfl rfl (by first | assumption | exact o0) (by rfl) ?_
    refine xs_f 21 r_174_19 rfl ?_
    refine xs_f 22 r_174_21 rfl ?_
    refine xs_get 25 r_174_22 rfl rfl (by first | assumption | exact o0) (by rfl) ?_
    refine xs_f 27 r_174_25 rfl ?_
    refine xs_aldI 28 r_174_27 (fun _ _ => rfl) rfl rfl rfl (j := 120) (nI_k 120) g0 (by omega) ?_
    refine xs_astI 29 r_174_28 (fun _ _ => rfl) rfl rfl rfl (j := 25) (nI_k 25) Mo0 (by omega) (fun f5 Mo5 y5 => ?_)
    have o6 := (y5 _ (by omega)).trans o0
    have g7 := g0.fr (y5 _ (by omega))
    have Y8 := (Fm7.rf : Fm7 h.1 h.1 a).w y5 (by omega)
    refine xs_f 30 r_174_29 rfl ?_
    refine xs_get 33 r_174_30 rfl rfl (by first | assumption | exact o6) (by rfl) ?_
    refine xs_f 35 r_174_33 rfl ?_
    refine xs_f 36 r_174_35 rfl ?_
    refine xs_get 39 r_174_36 rfl rfl (by first | assumption | exact o6) (by rfl) ?_
    refine xs_f 41 r_174_39 rfl ?_
    refine xs_aldI 42 r_174_41 (fun _ _ => rfl) rfl rfl rfl (j := 126) (nI_k 126) g7 (by omega) ?_
    refine xs_astI 43 r_174_42 (fun _ _ => rfl) rfl rfl rfl (j := 26) (nI_k 26) Mo5 (by omega) (fun f9 Mo9 y9 => ?_)
    have o10 := (y9 _ (by omega)).trans o6
    have g11 := g7.fr (y9 _ (by omega))
    have Y12 := Y8.w y9 (by omega)
    refine xs_f 44 r_174_43 rfl ?_
    refine xs_get 47 r_174_44 rfl rfl (by first | assumption | exact o10) (by rfl) ?_
    refine xs_f 49 r_174_47 rfl ?_
    refine xs_f 50 r_174_49 rfl ?_
    refine xs_get 53 r_174_50 rfl rfl (by first | assumption | exact o10) (by rfl) ?_
    refine xs_f 56 r_174_53 rfl ?_
    refine xs_aldI 57 r_174_56 (fun _ _ => rfl) rfl rfl rfl (j := 132) (nI_k 132) g11 (by omega) ?_
    refine xs_astI 58 r_174_57 (fun _ _ => rfl) rfl rfl rfl (j := 27) (nI_k 27) Mo9 (by omega) (fun f13 Mo13 y13 => ?_)
    have o14 := (y13 _ (by omega)).trans o10
    have g15 := g11.fr (y13 _ (by omega))
    have Y16 := Y12.w y13 (by omega)
    refine xs_f 59 r_174_58 rfl ?_
    refine xs_f 60 (lv2 := [(1, _), (0, _)]) r_174_59 rfl ?_
    refine xP_lv [(0, .ref a), (1, .int (nI 0))] rfl ⟨rfl, rfl, trivial⟩ (ml_174a (h := h) o0 g0 hG h32 Mo0 (fun f1 o1 g1 m1 Y1 => ?_) 26 0 _ (by omega) (by omega) o14 g15 (Mo13.ex (fun x hx => by unfold xw; (try dsimp only); (repeat' split) <;> first | rfl | (exfalso; omega) | (congr 1; omega))) Y16)
    have hn1 : xw (drF G (no - 1)) 1 (nI (no - 1)) 1 = nI (no - 1) := xw_s
    refine xs_f 89 r_174_88 rfl ?_
    refine xs_call (lv2 := [(0, _)]) r_174_89 rfl rfl (by decide) (xcan_0 rfl rfl (by first | assumption | exact o1) (by rfl)) rfl (m_171 (h := (f1, h.2)) o1 g1 h32 hG.2.1.1 (by omega) no6 (fun f1 g1 y1 => ?_))
    have o2 := (y1 _ (by omega)).trans o1
    have Mo3 := m1.fr (y1 _ (by omega))
    have Y4 := Y1.w y1 (by omega)
    refine xK_0 rfl ?_
    refine xs_f 93 r_174_92 rfl ?_
    refine xs_get 96 r_174_93 rfl rfl (by first | assumption | exact o2) (by rfl) ?_
    refine xs_f 97 r_174_96 rfl ?_
    refine xs_aldI 98 r_174_97 (fun _ _ => rfl) rfl rfl rfl (j := 1) (nI_k 1) g1 (by omega) ?_
    rw [hn1]
    refine xs_f 99 (lv2 := [(1, _), (0, _)]) r_174_98 rfl ?_
    refine xs_f 100 r_174_99 rfl ?_
    refine xs_get 103 r_174_100 rfl rfl (by first | assumption | exact o2) (by rfl) ?_
    refine xs_f 105 r_174_103 rfl ?_
    refine xs_f 106 r_174_105 rfl ?_
    refine xs_f 107 r_174_106 rfl ?_
    refine xs_f 108 r_174_107 rfl ?_
    refine xs_get 111 r_174_108 rfl rfl (by first | assumption | exact o2) (by rfl) ?_
    refine xs_f 113 r_174_111 rfl ?_
    refine xs_aldI 114 r_174_113 (fun _ _ => rfl) rfl rfl rfl (j := 25) (nI_k 25) Mo3 (by omega) ?_
    (try dsimp only)
    rw [if_pos rfl]
    refine xs_astI 115 r_174_114 (fun _ _ => rfl) rfl rfl rfl (j := (120 + (no - 1))) (nI_addE (nI_k 120) rfl) g1 (by omega) (fun f5 g5 y5 => ?_)
    have o6 := (y5 _ (by omega)).trans o2
    have Mo7 := Mo3.fr (y5 _ (by omega))
    have Y8 := Y4.w y5 (by omega)
    refine xs_f 116 r_174_115 rfl ?_
    refine xs_get 119 r_174_116 rfl rfl (by first | assumption | exact o6) (by rfl) ?_
    refine xs_f 121 r_174_119 rfl ?_
    refine xs_f 122 r_174_121 rfl ?_
    refine xs_f 123 r_174_122 rfl ?_
    refine xs_f 124 r_174_123 rfl ?_
    refine xs_get 127 r_174_124 rfl rfl (by first | assumption | exact o6) (by rfl) ?_
    refine xs_f 129 r_174_127 rfl ?_
    refine xs_aldI 130 r_174_129 (fun _ _ => rfl) rfl rfl rfl (j := 26) (nI_k 26) Mo7 (by omega) ?_
    (try dsimp only)
    rw [if_neg (by omega), if_pos rfl]
    refine xs_astI 131 r_174_130 (fun _ _ => rfl) rfl rfl rfl (j := (126 + (no - 1))) (nI_addE (nI_k 126) rfl) g5 (by omega) (fun f9 g9 y9 => ?_)
    have o10 := (y9 _ (by omega)).trans o6
    have Mo11 := Mo7.fr (y9 _ (by omega))
    have Y12 := Y8.w y9 (by omega)
    refine xs_f 132 r_174_131 rfl ?_
    refine xs_get 135 r_174_132 rfl rfl (by first | assumption | exact o10) (by rfl) ?_
    refine xs_f 138 r_174_135 rfl ?_
    refine xs_f 139 r_174_138 rfl ?_
    refine xs_f 140 r_174_139 rfl ?_
    refine xs_f 141 r_174_140 rfl ?_
    refine xs_get 144 r_174_141 rfl rfl (by first | assumption | exact o10) (by rfl) ?_
    refine xs_f 146 r_174_144 rfl ?_
    refine xs_aldI 147 r_174_146 (fun _ _ => rfl) rfl rfl rfl (j := 27) (nI_k 27) Mo11 (by omega) ?_
    (try dsimp only)
    rw [if_neg (by omega), if_neg (by omega), if_pos rfl]
    refine xs_astI 148 r_174_147 (fun _ _ => rfl) rfl rfl rfl (j := (132 + (no - 1))) (nI_addE (nI_k 132) rfl) g9 (by omega) (fun f13 g13 y13 => ?_)
    have o14 := (y13 _ (by omega)).trans o10
    have Mo15 := Mo11.fr (y13 _ (by omega))
    have Y16 := Y12.w y13 (by omega)
    refine xs_f 149 r_174_148 rfl ?_
    refine xs_f 150 (lv2 := [(2, _), (1, _), (0, _)]) r_174_149 rfl ?_
    refine xP_lv [(0, .ref a), (1, .int (nI (no - 1))), (2, .int (nI 0))] rfl ⟨rfl, rfl, rfl, trivial⟩ (ml_174b (h := h) o0 g0 hG h32 Mo0 (by omega) (fun f2 o2 g2 m2 Y2 => ?_) 26 0 _ (by omega) (by omega) o14 (by rw [gPs0_0 (by omega) no6] at g13; exact g13) Mo15 Y16)
    have hn2 : gPs0 G no 25 1 = nI (no - 1) := if_pos rfl
    refine xs_f 181 r_174_180 rfl ?_
    refine xs_get 184 r_174_181 rfl rfl (by first | assumption | exact o2) (by rfl) ?_
    refine xs_f 185 r_174_184 rfl ?_
    refine xs_f 186 r_174_185 rfl ?_
    refine xs_aldI 187 r_174_186 (fun _ _ => rfl) rfl rfl rfl (j := 1) (nI_k 1) g2 (by omega) ?_
    rw [hn2]
    refine xs_f 188 r_174_187 rfl ?_
    refine xs_f 189 r_174_188 rfl ?_
    refine xs_astI 190 r_174_189 (fun _ _ => rfl) rfl rfl rfl (j := 1) (nI_k 1) g2 (by omega) (fun f1 g1 y1 => ?_)
    have o2 := (y1 _ (by omega)).trans o2
    have Mo3 := m2.fr (y1 _ (by omega))
    have Y4 := Y2.w y1 (by omega)
    refine xs_f 191 r_174_190 rfl ?_
    refine xs_f 192 r_174_191 rfl ?_
    refine xs_get 195 r_174_192 rfl rfl (by first | assumption | exact o2) (by rfl) ?_
    refine xs_f 197 r_174_195 rfl ?_
    refine xs_aldI 198 r_174_197 (fun _ _ => rfl) rfl rfl rfl (j := 120) (nI_k 120) g1 (by omega) ?_
    refine xs_call (lv2 := [(0, _), (1, _)]) r_174_198 rfl rfl (by decide) (xcan_0 rfl rfl (by first | assumption | exact o2) (by rfl)) rfl ?_
    refine xs_f 1 r_152_0 rfl ?_
    refine xs_f 2 r_152_1 rfl ?_
    refine xs_putC 5 r_152_2 rfl o2 (by rfl) (by rfl) (fun f5 o5 y5 => ?_)
    have g6 := g1.fr (y5 _ (by omega))
    have Mo7 := Mo3.fr (y5 _ (by omega))
    have Y8 := Y4.w y5 (by omega)
    refine xs_f 6 r_152_5 rfl ?_
    refine xs_ret r_152_6 rfl ?_
    refine xK_v rfl ?_
    refine xs_ret r_174_201 rfl ?_
    have en : nI no = nI (no - 1) + 1 := by rw [nI_1]; congr 1; omega
    have e9 := gPs0_e (G := G) (no := no) (by omega) no6
    rw [en] at e9
    exact xq_int (kS (if_neg (by omega)) _ _ o5 (by rw [← e9]; exact g6) Mo7 Y8) (by rw [← e9])

