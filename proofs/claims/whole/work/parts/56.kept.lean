/-! the reference: what it keeps -/
def MdP (f : Nat → Option XE) (a : Nat) (G B H Sv Bu Le Mo Pa : Nat → Int32) (ch sv ty ea fa ol th sp wr : Int32) : Prop :=
  f a = some (.inr (9, mO a ch sv ty ea fa ol th sp wr)) ∧ IA f 0 (a + 1) 288 G ∧ IA f 0 (a + 2) 288 B ∧ IA f 0 (a + 3) 2304 H ∧ IA f 0 (a + 4) 288 Sv ∧ IA f 3 (a + 5) 60 Bu ∧ IA f 3 (a + 6) 100 Le ∧ IA f 0 (a + 7) 28 Mo ∧ IA f 0 (a + 8) 420 Pa
theorem MdP.fr {f g : Nat → Option XE} {a : Nat} {G B H Sv Bu Le Mo Pa : Nat → Int32} {ch sv ty ea fa ol th sp wr : Int32} (h : MdP f a G B H Sv Bu Le Mo Pa ch sv ty ea fa ol th sp wr) (e : ∀ c, a ≤ c → c < a + 9 → g c = f c) : MdP g a G B H Sv Bu Le Mo Pa ch sv ty ea fa ol th sp wr := by
  obtain ⟨h0, h1, h2, h3, h4, h5, h6, h7, h8⟩ := h
  exact ⟨(e _ (by omega) (by omega)).trans h0, h1.fr (e _ (by omega) (by omega)), h2.fr (e _ (by omega) (by omega)), h3.fr (e _ (by omega) (by omega)), h4.fr (e _ (by omega) (by omega)), h5.fr (e _ (by omega) (by omega)), h6.fr (e _ (by omega) (by omega)), h7.fr (e _ (by omega) (by omega)), h8.fr (e _ (by omega) (by omega))⟩
def Fh (f g : Nat → Option XE) (a : Nat) : Prop := ∀ c, (c ≠ a ∧ c ≠ a + 3) → g c = f c
theorem Fh.wd {f g : Nat → Option XE} {a lo hi : Nat} (h : Fh f g a) (h1 : lo ≤ a) (h2 : a + 4 ≤ hi) : Fr f g lo hi := fun c hc => h c (by omega)
theorem Fh.rf {f : Nat → Option XE} {a : Nat} : Fh f f a := fun _ _ => rfl
theorem Fh.tr {f g k : Nat → Option XE} {a : Nat} (h : Fh f g a) (h2 : Fh g k a) : Fh f k a := fun c hc => (h2 c hc).trans (h c hc)
theorem Fh.w {f g k : Nat → Option XE} {a x : Nat} (h : Fh f g a) (y : Fr g k x (x + 1)) (hx : x = a ∨ x = a + 3) : Fh f k a := fun c hc => (y c (by omega)).trans (h c hc)
theorem cp_all {F G : Nat → Int32} {j : Nat} (hj : j < 288) : cp288 F G 0 0 288 j = F j := (if_pos ⟨Nat.zero_le _, by omega⟩).trans (congrArg F (by omega))
theorem m_155 {S : XSc} {d : Nat} {h : XH} {Q : XO → XH → Prop} {a : Nat} {G : Nat → Int32} {ch sv ty ea fa ol th sp wr : Int32} {B : Nat → Int32} (o0 : h.1 a = some (.inr (9, mO a ch sv ty ea fa ol th sp wr))) (g0 : IA h.1 0 (a + 1) 288 G) (b0 : IA h.1 0 (a + 2) 288 B) (h32 : 32 ≤ a) (k : ∀ f, IA f 0 (a + 2) 288 G → Fr h.1 f (a + 2) (a + 3) → Q (.inl none) (f, h.2)) : xP S (d + 1) 155 0 [(0, .ref a)] [] h Q := by
  refine xs_f 1 r_155_0 rfl ?_
  refine xs_get 4 r_155_1 rfl rfl (by first | assumption | exact o0) (by rfl) ?_
  refine xs_f 5 r_155_4 rfl ?_
  refine xs_f 6 r_155_5 rfl ?_
  refine xs_get 9 r_155_6 rfl rfl (by first | assumption | exact o0) (by rfl) ?_
  refine xs_f 10 r_155_9 rfl ?_
  refine xs_call (lv2 := [(0, _), (1, _), (2, _), (3, _)]) r_155_10 rfl rfl (by decide) (xcan_1 rfl) rfl (xP_lv [(0, .ref (a + 1)), (1, .int (nI 0)), (2, .ref (a + 2)), (3, .int (nI 0))] rfl ⟨rfl, (congrArg (fun z => some (Value.int z)) (nI_k 0)), rfl, (congrArg (fun z => some (Value.int z)) (nI_k 0)), trivial⟩ (m_154 g0 b0 (u := 0) (w := 0) (by omega) (by omega) (by omega) (by omega) (by omega) (by omega) (by omega) (fun f1 b1 y1 => ?_)))
  have o2 := (y1 _ (by omega)).trans o0
  have g3 := g0.fr (y1 _ (by omega))
  have Y4 := (Fr.rf : Fr h.1 h.1 (a + 2) (a + 3)).tr (y1.wd (by omega) (by omega))
  refine xK_0 rfl ?_
  refine xs_ret r_155_13 rfl ?_
  exact k _ (b1.ex (fun j hj => cp_all hj)) Y4

/-- a state goes behind the kept ones; eight are kept -/
def psh (c : Nat) (H B : Nat → Int32) : Nat → Int32 := if c < 8 then (fun j => if c * 288 ≤ j ∧ j < c * 288 + 288 then B (j - c * 288) else H j) else (fun j => if j < 2016 then H (j + 288) else B (j - 2016))
def shH (H : Nat → Int32) (n : Nat) : Nat → Int32 := fun j => if j < n then H (j + 288) else H j
theorem shH_s {H : Nat → Int32} {n : Nat} : xw (shH H n) n (H (n + 288)) = shH H (n + 1) := funext fun x => by
  unfold xw shH
  (repeat' split) <;> first | rfl | (exfalso; omega) | (congr 1; omega)
theorem ml_156 {S : XSc} {d : Nat} {h : XH} {Q : XO → XH → Prop} {a : Nat} {G B H : Nat → Int32} {ch : Nat} {sv ty ea fa ol th sp wr : Int32} (o0 : h.1 a = some (.inr (9, mO a (nI ch) sv ty ea fa ol th sp wr))) (g0 : IA h.1 0 (a + 1) 288 G) (b0 : IA h.1 0 (a + 2) 288 B) (H0 : IA h.1 0 (a + 3) 2304 H) (h32 : 32 ≤ a) (h8 : ch ≤ 8) {v : Int32} (k : ∀ f, IA f 0 (a + 3) 2304 (shH H 2016) → Fr h.1 f (a + 3) (a + 4) → xP S d 156 62 [(0, .ref a), (1, .int v), (2, .int (nI 2016))] [] (f, h.2) Q) : ∀ (m : Nat) (n : Nat) (f : Nat → Option XE), 2016 - n < m → (n ≤ 2016) → (IA f 0 (a + 3) 2304 (shH H n)) → (Fr h.1 f (a + 3) (a + 4)) → xP S d 156 33 [(0, .ref a), (1, .int v), (2, .int (nI n))] [] (f, h.2) Q := by
  intro m
  induction m with
  | zero => intro n f hm; exact absurd hm (Nat.not_lt_zero _)
  | succ m ih =>
    intro n f hm hn H9 hF
    have o9 := (hF a (by omega)).trans o0
    have hz : shH H n (n + 288) = H (n + 288) := if_neg (by omega)
    refine xs_f 34 r_156_33 rfl ?_
    refine xs_f 37 r_156_34 rfl ?_
    refine xs_if 62 40 r_156_37 rfl (fun hc1 => ?_) (fun hc1 => ?_)
    · have hc1 := (nI_leN (nI_k 2016) rfl (by omega) (by omega)).mp hc1
      have e : n = 2016 := by omega
      subst e
      exact k f H9 hF
    · have hc1 := mt (nI_leN (nI_k 2016) rfl (by omega) (by omega)).mpr hc1
      refine xs_f 41 r_156_40 rfl ?_
      refine xs_get 44 r_156_41 rfl rfl (by first | assumption | exact o9) (by rfl) ?_
      refine xs_f 45 r_156_44 rfl ?_
      refine xs_f 46 r_156_45 rfl ?_
      refine xs_get 49 r_156_46 rfl rfl (by first | assumption | exact o9) (by rfl) ?_
      refine xs_f 50 r_156_49 rfl ?_
      refine xs_f 53 r_156_50 rfl ?_
      refine xs_f 54 r_156_53 rfl ?_
      refine xs_aldI 55 r_156_54 (fun _ _ => rfl) rfl rfl rfl (j := (n + 288)) (nI_addE rfl (nI_k 288)) H9 (by omega) ?_
      rw [hz]
      refine xs_astI 56 r_156_55 (fun _ _ => rfl) rfl rfl rfl (j := n) rfl H9 (by omega) (fun f1 H1 y1 => ?_)
      have o2 := (y1 _ (by omega)).trans o9
      have Y3 := hF.tr (y1.wd (by omega) (by omega))
      refine xs_f 59 (lv2 := [(2, _), (0, _), (1, _)]) r_156_56 rfl ?_
      refine xs_f 33 r_156_59 rfl ?_
      exact xP_lv [(0, .ref a), (1, .int v), (2, .int (nI (n + 1)))] rfl ⟨rfl, rfl, (by rw [nI_succ]; rfl), trivial⟩ (ih (n + 1) _ (by omega) (by omega) (by rw [shH_s] at H1; exact H1) Y3)

theorem m_156 {S : XSc} {d : Nat} {h : XH} {Q : XO → XH → Prop} {a : Nat} {G B H : Nat → Int32} {ch : Nat} {sv ty ea fa ol th sp wr : Int32} (o0 : h.1 a = some (.inr (9, mO a (nI ch) sv ty ea fa ol th sp wr))) (g0 : IA h.1 0 (a + 1) 288 G) (b0 : IA h.1 0 (a + 2) 288 B) (H0 : IA h.1 0 (a + 3) 2304 H) (h32 : 32 ≤ a) (h8 : ch ≤ 8) {v : Int32} (kF : th ≠ 0 → ∀ f, IA f 0 (a + 1) 288 B → Fr h.1 f (a + 1) (a + 2) → Q (.inl (some (.int 0))) (f, h.2)) (k0 : th = 0 → ∀ f, f a = some (.inr (9, mO a (nI (min (ch + 1) 8)) sv ty ea fa ol th sp wr)) → IA f 0 (a + 3) 2304 (psh ch H B) → Fh h.1 f a → Q (.inl (some (.int v))) (f, h.2)) : xP S (d + 1) 156 0 [(0, .ref a), (1, .int v)] [] h Q := by
  refine xs_f 1 r_156_0 rfl ?_
  refine xs_get 4 r_156_1 rfl rfl (by first | assumption | exact o0) (by rfl) ?_
  refine xs_if 22 7 r_156_4 rfl (fun ht => ?_) (fun ht => ?_)
  · refine xs_f 23 r_156_22 rfl ?_
    refine xs_get 26 r_156_23 rfl rfl (by first | assumption | exact o0) (by rfl) ?_
    refine xs_f 28 r_156_26 rfl ?_
    refine xs_if 31 72 r_156_28 rfl (fun hc2 => ?_) (fun hc2 => ?_)
    · have hc2 := (nI_eqN rfl (nI_k 8) (by omega) (by omega)).mp hc2
      refine xs_f 32 r_156_31 rfl ?_
      refine xs_f 33 (lv2 := [(2, _), (0, _), (1, _)]) r_156_32 rfl ?_
      refine xP_lv [(0, .ref a), (1, .int v), (2, .int (nI 0))] rfl ⟨rfl, rfl, rfl, trivial⟩ (ml_156 o0 g0 b0 H0 h32 h8 (fun f1 H1 y1 => ?_) 2017 0 h.1 (by omega) (by omega) (H0.ex (fun j _ => (if_neg (by omega)).symm)) Fr.rf)
      have e8 : ch = 8 := by omega
      have o1 := (y1 a (by omega)).trans o0
      have b1 := b0.fr (y1 _ (by omega))
      have Y1 : Fh h.1 f1 a := Fh.rf.w y1 (by omega)
      refine xs_f 63 r_156_62 rfl ?_
      refine xs_f 64 r_156_63 rfl ?_
      refine xs_get 67 r_156_64 rfl rfl (by first | assumption | exact o1) (by rfl) ?_
      refine xs_f 68 r_156_67 rfl ?_
      refine xs_f 69 r_156_68 rfl ?_
      refine xs_putC 72 r_156_69 rfl o1 (by rfl) (by rfl) (fun f1 o1 y1 => ?_)
      have b2 := b1.fr (y1 _ (by omega))
      have H3 := H1.fr (y1 _ (by omega))
      have Y4 := Y1.w y1 (by omega)
      refine xs_f 73 r_156_72 rfl ?_
      refine xs_get 76 r_156_73 rfl rfl (by first | assumption | exact o1) (by rfl) ?_
      refine xs_f 77 r_156_76 rfl ?_
      refine xs_f 78 r_156_77 rfl ?_
      refine xs_get 81 r_156_78 rfl rfl (by first | assumption | exact o1) (by rfl) ?_
      refine xs_f 82 r_156_81 rfl ?_
      refine xs_get 85 r_156_82 rfl rfl (by first | assumption | exact o1) (show _ = some (Value.int (nI 7)) from by subst e8; rfl) ?_
      refine xs_f 88 r_156_85 rfl ?_
      refine xs_f 89 r_156_88 rfl ?_
      refine xs_call (lv2 := [(0, _), (1, _), (2, _), (3, _)]) r_156_89 rfl rfl (by decide) (xcan_1 rfl) rfl (xP_lv [(0, .ref (a + 2)), (1, .int (nI 0)), (2, .ref (a + 3)), (3, .int (nI (7 * 288)))] rfl ⟨rfl, (congrArg (fun z => some (Value.int z)) (nI_k 0)), rfl, (congrArg (fun z => some (Value.int z)) (nI_mulE rfl (nI_k 288))), trivial⟩ (m_154 b2 H3 (u := 0) (w := (7 * 288)) (by omega) (by omega) (by omega) (by omega) (by omega) (by omega) (by omega) (fun f5 H5 y5 => ?_)))
      have o6 := (y5 _ (by omega)).trans o1
      have b7 := b2.fr (y5 _ (by omega))
      have Y8 := Y4.w y5 (by omega)
      refine xK_0 rfl ?_
      refine xs_f 93 r_156_92 rfl ?_
      refine xs_f 94 r_156_93 rfl ?_
      refine xs_get 97 r_156_94 rfl rfl (by first | assumption | exact o6) (show _ = some (Value.int (nI 7)) from by subst e8; rfl) ?_
      refine xs_f 98 r_156_97 rfl ?_
      refine xs_f 99 r_156_98 rfl ?_
      refine xs_putC 102 r_156_99 rfl o6 (by rfl) (by rfl) (fun f9 o9 y9 => ?_)
      have b10 := b7.fr (y9 _ (by omega))
      have H11 := H5.fr (y9 _ (by omega))
      have Y12 := Y8.w y9 (by omega)
      refine xs_f 103 r_156_102 rfl ?_
      refine xs_ret r_156_103 rfl ?_
      exact k0 ht _ (o9.trans (by subst e8; rfl)) (H11.ex (fun j hj => by
        unfold psh cp288 shH
        rw [if_neg (show ¬ ch < 8 by omega)]
        (repeat' split) <;> first | (exfalso; omega) | exact congrArg B (by omega) | exact congrArg H (by omega))) Y12
    · have hc2 := mt (nI_eqN rfl (nI_k 8) (by omega) (by omega)).mpr hc2
      refine xs_f 73 r_156_72 rfl ?_
      refine xs_get 76 r_156_73 rfl rfl (by first | assumption | exact o0) (by rfl) ?_
      refine xs_f 77 r_156_76 rfl ?_
      refine xs_f 78 r_156_77 rfl ?_
      refine xs_get 81 r_156_78 rfl rfl (by first | assumption | exact o0) (by rfl) ?_
      refine xs_f 82 r_156_81 rfl ?_
      refine xs_get 85 r_156_82 rfl rfl (by first | assumption | exact o0) (by rfl) ?_
      refine xs_f 88 r_156_85 rfl ?_
      refine xs_f 89 r_156_88 rfl ?_
      refine xs_call (lv2 := [(0, _), (1, _), (2, _), (3, _)]) r_156_89 rfl rfl (by decide) (xcan_1 rfl) rfl (xP_lv [(0, .ref (a + 2)), (1, .int (nI 0)), (2, .ref (a + 3)), (3, .int (nI (ch * 288)))] rfl ⟨rfl, (congrArg (fun z => some (Value.int z)) (nI_k 0)), rfl, (congrArg (fun z => some (Value.int z)) (nI_mulE rfl (nI_k 288))), trivial⟩ (m_154 b0 H0 (u := 0) (w := (ch * 288)) (by omega) (by omega) (by omega) (by omega) (by omega) (by omega) (by omega) (fun f1 H1 y1 => ?_)))
      have o2 := (y1 _ (by omega)).trans o0
      have g3 := g0.fr (y1 _ (by omega))
      have b4 := b0.fr (y1 _ (by omega))
      have Y5 := (Fh.rf : Fh h.1 h.1 a).w y1 (by omega)
      refine xK_0 rfl ?_
      refine xs_f 93 r_156_92 rfl ?_
      refine xs_f 94 r_156_93 rfl ?_
      refine xs_get 97 r_156_94 rfl rfl (by first | assumption | exact o2) (by rfl) ?_
      refine xs_f 98 r_156_97 rfl ?_
      refine xs_f 99 r_156_98 rfl ?_
      
      refine xs_putC 102 r_156_99 rfl o2 (by rfl) (by rfl) (fun f6 o6 y6 => ?_)
      have g7 := g3.fr (y6 _ (by omega))
      have b8 := b4.fr (y6 _ (by omega))
      have H9 := H1.fr (y6 _ (by omega))
      have Y10 := Y5.w y6 (by omega)
      refine xs_f 103 r_156_102 rfl ?_
      refine xs_ret r_156_103 rfl ?_
      exact k0 ht _ (o6.trans (by rw [show min (ch + 1) 8 = ch + 1 by omega, nI_succ]; rfl)) (H9.ex (fun j hj => by
        unfold psh cp288
        rw [if_pos (show ch < 8 by omega)]
        (repeat' split) <;> first | (exfalso; omega) | exact congrArg B (by omega) | exact congrArg H (by omega))) Y10
  · refine xs_f 8 r_156_7 rfl ?_
    refine xs_get 11 r_156_8 rfl rfl (by first | assumption | exact o0) (by rfl) ?_
    refine xs_f 12 r_156_11 rfl ?_
    refine xs_f 13 r_156_12 rfl ?_
    refine xs_get 16 r_156_13 rfl rfl (by first | assumption | exact o0) (by rfl) ?_
    refine xs_f 17 r_156_16 rfl ?_
    refine xs_call (lv2 := [(0, _), (1, _), (2, _), (3, _)]) r_156_17 rfl rfl (by decide) (xcan_1 rfl) rfl (xP_lv [(0, .ref (a + 2)), (1, .int (nI 0)), (2, .ref (a + 1)), (3, .int (nI 0))] rfl ⟨rfl, (congrArg (fun z => some (Value.int z)) (nI_k 0)), rfl, (congrArg (fun z => some (Value.int z)) (nI_k 0)), trivial⟩ (m_154 b0 g0 (u := 0) (w := 0) (by omega) (by omega) (by omega) (by omega) (by omega) (by omega) (by omega) (fun f11 g11 y11 => ?_)))
    have gx1 := g11
    have yx1 := y11
    refine xK_0 rfl ?_
    refine xs_f 21 r_156_20 rfl ?_
    refine xs_ret r_156_21 rfl ?_
    exact kF ht _ (gx1.ex (fun j hj => cp_all hj)) yx1

