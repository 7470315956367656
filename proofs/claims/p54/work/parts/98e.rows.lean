/-! what is known of a row -/
def Gd (G : Nat → Int32) : Prop := (G 0 = nI (npG G) ∧ npG G ≤ 5) ∧ (G 1 = nI (noG G) ∧ noG G ≤ 6) ∧ (∀ i, i < 6 → G (132 + i) = nI (mnG G i) ∧ mnG G i ≤ 5) ∧ ∀ i, i < noG G → ∀ r, r < mnG G i → ∃ p, p < npG G ∧ (gE G i r).1 = nI p
theorem Ca.gd {B : Nat} {G H Sv : Nat → Int32} {ch : Nat} {sv : Bool} {ea fa : Int32} {tn : Nat} {Bu : Nat → Int32} {h : XH} (hC : Ca B G H Sv ch sv ea fa tn Bu h) : Gd G := by
  obtain ⟨pos, K, hX, hS, -, -, -, hK, h8, ht, hB9⟩ := hC
  obtain ⟨nn, N, ho, TS, TH, tr, pl, q, s, R, hBd, hr, hk, hN, hs⟩ := hS.nm (by omega)
  obtain ⟨⟨⟨g0, g5⟩, ⟨g1, g6⟩, gm⟩, ⟨r1, r2, r3⟩, r5, r6, r7, r8⟩ := hr
  refine ⟨⟨g0, g5⟩, ⟨g1, g6⟩, gm, fun i hi r hr => ?_⟩
  obtain ⟨-, e2, e3, e4⟩ := r7 i hi
  have e3 : (q i).2.2.1 = mnG G i := e3
  have hr2 : r < (q i).2.2.1 := by omega
  have e5 : (q i).2.2.2 r = gE G i r := e4 r hr
  obtain ⟨i2, h2, h3⟩ := ((hk.2.1 i hi).2.2.2.1 r hr2).1
  exact ⟨i2, h2, by rw [← e5]; exact h3⟩
theorem isPl_k {np j : Nat} (h : j < np) (hn : np ≤ 6) : isPl np (nI j) := ⟨nI_pos' (by omega), nI_lt h (by omega)⟩
theorem R_pl_k {np j : Nat} (h : j < np) (hn : np ≤ 6) (f : Nat → Int32) : R_pl np (nI j) f = (0, f j) := by
  unfold R_pl
  rw [if_pos (isPl_k h hn), nI_clamp (by omega)]
theorem fnd_le2 {p : Nat → Bool} {i : Nat} (hp : p i = true) : ∀ {n : Nat}, i < n → fnd p n ≤ i
  | n + 1, h => by
    unfold fnd
    rcases Nat.lt_or_ge i n with z | z
    · have := fnd_le2 (n := n) hp z
      rw [if_pos (by omega)]
      exact this
    · have e : i = n := by omega
      subst e
      split
      · omega
      · rw [hp]; exact Nat.le_refl _
/-- a question that lies at place i is found -/
theorem pla_k {q : Nat → XQu} {no i : Nat} (h : i < no) : pla q no (q i).1 < no := Nat.lt_of_le_of_lt (fnd_le2 (decide_eq_true rfl) h) h
theorem rnk_k {E : Nat → XEst} {m r : Nat} (h : r < m) : rnk E m (E r).1 < m := Nat.lt_of_le_of_lt (fnd_le2 (decide_eq_true rfl) h) h
/-! a contest under way that nobody knows -/
def Bk (B : Nat) (c : XH) : Prop := ∃ G H Sv ch Bu, Ca B G H Sv ch false (-1) (-1) 0 Bu c
def Bq (B n : Nat) (c : XH) : Prop := ∃ G H Sv ch Bu, Ca B G H Sv ch false (-1) (-1) 0 Bu c ∧ noG G = n
def Bd (h : XH) (b B : Nat) (h1 : XH) : Prop := ∃ F1, AtC h1 b F1 (Bk B) ∧ MvC h h1 F0c F1 (777 + B) (4418 + 6 * B)
def Be (h : XH) (b B n : Nat) (h1 : XH) : Prop := ∃ F1, AtC h1 b F1 (Bq B n) ∧ MvC h h1 F0c F1 (777 + B) (4418 + 6 * B)
section BD
variable {S : XSc} {d b B n : Nat} {h h1 : XH} {Q : XO → XH → Prop}
theorem Bk.o {c : XH} (h : Bk B c) : ∃ fs, c.1 32 = some (.inr (8, fs)) := by
  obtain ⟨G, H, Sv, ch, Bu, k⟩ := h
  exact k.o
theorem Bq.o {c : XH} (h : Bq B n c) : ∃ fs, c.1 32 = some (.inr (8, fs)) := by
  obtain ⟨G, H, Sv, ch, Bu, k, -⟩ := h
  exact k.o
theorem Bd.o (W : Bd h b B h1) : ∃ gs, h1.1 b = some (.inr (8, gs)) := by
  obtain ⟨F1, A, -⟩ := W
  exact A.cell (fun c z => z.o)
theorem Be.o (W : Be h b B n h1) : ∃ gs, h1.1 b = some (.inr (8, gs)) := by
  obtain ⟨F1, A, -⟩ := W
  exact A.cell (fun c z => z.o)
theorem Be.toD (W : Be h b B n h1) : Bd h b B h1 := by
  obtain ⟨F1, A, M⟩ := W
  exact ⟨F1, A.imp (fun c hc => by obtain ⟨G, H, Sv, ch, Bu, k, -⟩ := hc; exact ⟨G, H, Sv, ch, Bu, k⟩), M⟩
theorem Bd.up {B2 : Nat} (W : Bd h b B h1) (hb : B ≤ B2) (h9 : B2 ≤ 1000) : Bd h b B2 h1 := by
  obtain ⟨F1, A, M⟩ := W
  exact ⟨F1, A.imp (fun c hc => by obtain ⟨G, H, Sv, ch, Bu, k⟩ := hc; exact ⟨G, H, Sv, ch, Bu, k.up hb h9⟩), M.le (by omega) (by omega)⟩
theorem Bd.x (W : Bd h b B h1) : ∃ F1 G H Sv ch Bu, AtC h1 b F1 (Ca B G H Sv ch false (-1) (-1) 0 Bu) ∧ MvC h h1 F0c F1 (777 + B) (4418 + 6 * B) := by
  obtain ⟨F1, A, M⟩ := W
  obtain ⟨G, A⟩ := A.ex
  obtain ⟨H, A⟩ := A.ex
  obtain ⟨Sv, A⟩ := A.ex
  obtain ⟨ch, A⟩ := A.ex
  obtain ⟨Bu, A⟩ := A.ex
  exact ⟨F1, G, H, Sv, ch, Bu, A, M⟩
theorem Be.x (W : Be h b B n h1) : ∃ F1 G H Sv ch Bu, AtC h1 b F1 (Ca B G H Sv ch false (-1) (-1) 0 Bu) ∧ noG G = n ∧ MvC h h1 F0c F1 (777 + B) (4418 + 6 * B) := by
  obtain ⟨F1, A, M⟩ := W
  obtain ⟨G, A⟩ := A.ex
  obtain ⟨H, A⟩ := A.ex
  obtain ⟨Sv, A⟩ := A.ex
  obtain ⟨ch, A⟩ := A.ex
  obtain ⟨Bu, A⟩ := A.ex
  obtain ⟨e, A⟩ := (A.imp (P2 := fun c => noG G = n ∧ Ca B G H Sv ch false (-1) (-1) 0 Bu c) (fun c hc => ⟨hc.2, hc.1⟩)).pure
  exact ⟨F1, G, H, Sv, ch, Bu, A, e, M⟩
theorem Bd.of {F1 F2 : Nat → Prop} {G H Sv : Nat → Int32} {ch : Nat} {Bu : Nat → Int32} {h2 : XH} {x y : Nat} (A : AtC h2 b F2 (Ca B G H Sv ch false (-1) (-1) 0 Bu)) {B2 B3 : Nat} (M : MvC h h1 F0c F1 (777 + B2) (4418 + 6 * B2)) (M2 : MvC h1 h2 F1 F2 x y) (hb : B ≤ B3) (h9 : B3 ≤ 1000) (hx : B2 + x ≤ B3) (hy : 6 * B2 + y ≤ 6 * B3) : Bd h b B3 h2 :=
  ⟨F2, A.imp (fun c hc => ⟨G, H, Sv, ch, Bu, hc.up hb h9⟩), (M.tr M2).le (by omega) (by omega)⟩
theorem Be.of {F1 F2 : Nat → Prop} {G H Sv : Nat → Int32} {ch : Nat} {Bu : Nat → Int32} {h2 : XH} {x y : Nat} (A : AtC h2 b F2 (Ca B G H Sv ch false (-1) (-1) 0 Bu)) (hn : noG G = n) {B2 B3 : Nat} (M : MvC h h1 F0c F1 (777 + B2) (4418 + 6 * B2)) (M2 : MvC h1 h2 F1 F2 x y) (hb : B ≤ B3) (h9 : B3 ≤ 1000) (hx : B2 + x ≤ B3) (hy : 6 * B2 + y ≤ 6 * B3) : Be h b B3 n h2 :=
  ⟨F2, A.imp (fun c hc => ⟨G, H, Sv, ch, Bu, hc.up hb h9, hn⟩), (M.tr M2).le (by omega) (by omega)⟩
theorem bd_0 (hB : B ≤ 800) {a : Int32} (W : Bd h b B h1) (k : ∀ h2 v, Bd h b (B + 1) h2 → Q (.inl (some (.int v))) h2) : yP S (d + 8) 163 0 [(0, .ref b), (1, .int 0), (2, .int a)] [] h1 Q := by
  obtain ⟨F1, G, H, Sv, ch, Bu, A, M⟩ := W.x
  exact la_163_0 A (by omega) (fun z h2 F2 A2 M2 => k h2 _ (Bd.of A2 M M2 (by omega) (by omega) (by omega) (by omega))) (fun z h2 F2 A2 M2 => k h2 _ (Bd.of A2 M M2 (by omega) (by omega) (by omega) (by omega)))
theorem bd_1 (hB : B ≤ 800) {a : Int32} (W : Bd h b B h1) (k : ∀ h2 v, Bd h b (B + 1) h2 → Q (.inl (some (.int v))) h2) : yP S (d + 8) 163 0 [(0, .ref b), (1, .int 1), (2, .int a)] [] h1 Q := by
  obtain ⟨F1, G, H, Sv, ch, Bu, A, M⟩ := W.x
  exact la_163_1 A (by omega) (fun z h2 F2 A2 M2 => k h2 _ (Bd.of A2 M M2 (by omega) (by omega) (by omega) (by omega))) (fun z h2 F2 A2 M2 => k h2 _ (Bd.of A2 M M2 (by omega) (by omega) (by omega) (by omega))) (fun z h2 F2 A2 M2 => k h2 _ (Bd.of A2 M M2 (by omega) (by omega) (by omega) (by omega)))
theorem bd_2 (hB : B ≤ 800) {a : Int32} (W : Bd h b B h1) (k : ∀ h2 v, Bd h b (B + 1) h2 → Q (.inl (some (.int v))) h2) : yP S (d + 8) 163 0 [(0, .ref b), (1, .int 2), (2, .int a)] [] h1 Q := by
  obtain ⟨F1, G, H, Sv, ch, Bu, A, M⟩ := W.x
  exact la_163_2 A (by omega) (fun z h2 F2 A2 M2 => k h2 _ (Bd.of A2 M M2 (by omega) (by omega) (by omega) (by omega))) (fun z h2 F2 A2 M2 => k h2 _ (Bd.of A2 M M2 (by omega) (by omega) (by omega) (by omega))) (fun z h2 F2 A2 M2 => k h2 _ (Bd.of A2 M M2 (by omega) (by omega) (by omega) (by omega)))
theorem bd_3 (hB : B ≤ 800) {a : Int32} (W : Bd h b B h1) (k : ∀ h2 v, Bd h b (B + 1) h2 → Q (.inl (some (.int v))) h2) : yP S (d + 8) 163 0 [(0, .ref b), (1, .int 3), (2, .int a)] [] h1 Q := by
  obtain ⟨F1, G, H, Sv, ch, Bu, A, M⟩ := W.x
  exact la_163_3 A (by omega) (fun z h2 F2 A2 M2 => k h2 _ (Bd.of A2 M M2 (by omega) (by omega) (by omega) (by omega))) (fun z h2 F2 A2 M2 => k h2 _ (Bd.of A2 M M2 (by omega) (by omega) (by omega) (by omega)))
theorem bd_4 (hB : B ≤ 800) {a : Int32} (W : Bd h b B h1) (k : ∀ h2 v, Bd h b (B + 1) h2 → Q (.inl (some (.int v))) h2) : yP S (d + 8) 163 0 [(0, .ref b), (1, .int 4), (2, .int a)] [] h1 Q := by
  obtain ⟨F1, G, H, Sv, ch, Bu, A, M⟩ := W.x
  exact la_163_4 A (by omega) (fun z h2 F2 A2 M2 => k h2 _ (Bd.of A2 M M2 (by omega) (by omega) (by omega) (by omega))) (fun z h2 F2 A2 M2 => k h2 _ (Bd.of A2 M M2 (by omega) (by omega) (by omega) (by omega))) (fun z h2 F2 A2 M2 => k h2 _ (Bd.of A2 M M2 (by omega) (by omega) (by omega) (by omega)))
theorem be_95 (W : Bd h b B h1) (k : ∀ h2 n, n ≤ 6 → Be h b B n h2 → Q (.inl (some (.int (nI n)))) h2) : yP S (d + 7) 95 0 [(0, .ref b)] [] h1 Q := by
  obtain ⟨F1, G, H, Sv, ch, Bu, A, M⟩ := W.x
  obtain ⟨c, hc⟩ := A.get
  have g := hc.gd
  have h9 : B ≤ 1000 := by obtain ⟨pos, K, -, -, -, -, -, q⟩ := hc; omega
  refine qa_95 A (fun h2 F2 A2 M2 => ?_)
  rw [g.2.1.1]
  exact k h2 _ g.2.1.2 (Be.of A2 rfl M M2 (Nat.le_refl _) h9 (by omega) (by omega))
theorem be_96 {i : Nat} (hi : i < n) (hn : n ≤ 6) (W : Be h b B n h1) (k : ∀ h2 v, Be h b B n h2 → Q (.inl (some (.int v))) h2) : yP S (d + 7) 96 0 [(0, .ref b), (1, .int (nI i))] [] h1 Q := by
  obtain ⟨F1, G, H, Sv, ch, Bu, A, e, M⟩ := W.x
  obtain ⟨c, hc⟩ := A.get
  have h9 : B ≤ 1000 := by obtain ⟨pos, K, -, -, -, -, -, q⟩ := hc; omega
  exact qa_96 A (by rw [R_pl_k (by omega) (by omega)]) (fun h2 F2 A2 M2 => k h2 _ (Be.of A2 e M M2 (Nat.le_refl _) h9 (by omega) (by omega)))
theorem noG_xw {G : Nat → Int32} {j : Nat} {v : Int32} (hj : j ≠ 1) : noG (xw G j v) = noG G := by
  have e : xw G j v 1 = G 1 := if_neg (fun z => hj z.symm)
  unfold noG
  rw [e]
theorem gBet_no {G : Nat → Int32} {i j m : Nat} {lo hi c s : Int32} : noG (gBet G i j m lo hi c s) = noG G := by
  unfold gBet
  rw [noG_xw (by omega), noG_xw (by omega), noG_xw (by omega), noG_xw (by omega), noG_xw (by omega), noG_xw (by omega), noG_xw (by omega)]
theorem be_164 (hB : B ≤ 800) {p q lo hi c s : Int32} (W : Be h b B n h1) (k : ∀ h2 v, Be h b (B + 1) n h2 → Q (.inl (some (.int v))) h2) : yP S (d + 8) 164 0 [(0, .ref b), (1, .int p), (2, .int q), (3, .int lo), (4, .int hi), (5, .int c), (6, .int s)] [] h1 Q := by
  obtain ⟨F1, G, H, Sv, ch, Bu, A, e, M⟩ := W.x
  exact la_164 A (by omega) (fun z h2 F2 A2 M2 => k h2 _ (Be.of A2 e M M2 (by omega) (by omega) (by omega) (by omega))) (fun z h2 F2 A2 M2 => k h2 _ (Be.of A2 e M M2 (by omega) (by omega) (by omega) (by omega))) (fun z h2 F2 A2 M2 => k h2 _ (Be.of A2 e M M2 (by omega) (by omega) (by omega) (by omega))) (fun z h2 F2 A2 M2 => k h2 _ (Be.of A2 e M M2 (by omega) (by omega) (by omega) (by omega))) (fun z h2 F2 A2 M2 => k h2 _ (Be.of A2 e M M2 (by omega) (by omega) (by omega) (by omega))) (fun z h2 F2 A2 M2 => k h2 _ (Be.of A2 (gBet_no.trans e) M M2 (by omega) (by omega) (by omega) (by omega)))
end BD
