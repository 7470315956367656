/-! the law's own rows of numbers -/
def eV (G : Nat → Int32) (n : Int32) (r j : Nat) : Int32 := if j = 0 then (R_est (gQ G (mnG G)) (noG G) n (nI r)).2 else if j = 1 then (R_fld (npG G) (gQ G (mnG G)) (noG G) (R_est (gQ G (mnG G)) (noG G) n (nI r)).2 n (fun e => e.2.1)).2 else if j = 2 then (R_fld (npG G) (gQ G (mnG G)) (noG G) (R_est (gQ G (mnG G)) (noG G) n (nI r)).2 n (fun e => e.2.2.1)).2 else if j = 3 then (R_fld (npG G) (gQ G (mnG G)) (noG G) (R_est (gQ G (mnG G)) (noG G) n (nI r)).2 n (fun e => e.2.2.2.1)).2 else (R_fld (npG G) (gQ G (mnG G)) (noG G) (R_est (gQ G (mnG G)) (noG G) n (nI r)).2 n (fun e => e.2.2.2.2)).2
/-- a number at a place is found, and so are its estimates -/
theorem Gd.est {G : Nat → Int32} (g : Gd G) {n : Int32} (hn : pla (gQ G (mnG G)) (noG G) n < noG G) {r : Nat} (hr : r < mnG G (pla (gQ G (mnG G)) (noG G) n)) : (R_est (gQ G (mnG G)) (noG G) n (nI r)).1 = 0 ∧ ∀ f : XEst → Int32, (R_fld (npG G) (gQ G (mnG G)) (noG G) (R_est (gQ G (mnG G)) (noG G) n (nI r)).2 n f).1 = 0 := by
  obtain ⟨⟨g0, g5⟩, ⟨g1, g6⟩, gm, ge⟩ := g
  have h5 := (gm _ (show pla (gQ G (mnG G)) (noG G) n < 6 by omega)).2
  obtain ⟨p, hp, ep⟩ := ge _ hn r hr
  have e1 : R_est (gQ G (mnG G)) (noG G) n (nI r) = (0, nI p) := by
    unfold R_est
    rw [if_pos hn, if_pos (show isPl (gQ G (mnG G) (pla (gQ G (mnG G)) (noG G) n)).2.2.1 (nI r) from isPl_k hr (by show mnG G _ ≤ 6; omega)), nI_clamp (by omega)]
    exact congrArg (fun z => ((0, z) : XR)) ep
  refine ⟨by rw [e1], fun f => ?_⟩
  rw [e1]
  show (R_fld (npG G) (gQ G (mnG G)) (noG G) (nI p) n f).1 = 0
  have e2 : rnk (gQ G (mnG G) (pla (gQ G (mnG G)) (noG G) n)).2.2.2 (gQ G (mnG G) (pla (gQ G (mnG G)) (noG G) n)).2.2.1 (nI p) < (gQ G (mnG G) (pla (gQ G (mnG G)) (noG G) n)).2.2.1 := by
    have e3 := rnk_k (E := gE G (pla (gQ G (mnG G)) (noG G) n)) hr
    rw [ep] at e3
    exact e3
  unfold R_fld
  rw [if_pos (isPl_k hp (by omega)), if_pos ⟨hn, e2⟩]
def Own (h0 h : XH) (F : Nat → Prop) (a : Nat) : Prop := (∃ n0, h0.2.1 = some n0 ∧ 72 + n0 ≤ a) ∧ ¬ F a ∧ ∃ n, h.2.1 = some n ∧ a < 72 + n
section OWN
variable {S : XSc} {d mid pc : Nat} {lv : XLv} {st : List Value} {k0 : XK} {Q : XO → XH → Prop} {h0 h h2 : XH} {b a c x y x2 y2 : Nat} {Fs F F2 : Nat → Prop} {P : XH → Prop}
theorem Own.mv (o : Own h0 h F a) (u : MvC h h2 F F2 x y) : Own h0 h2 F2 a ∧ h2.1 a = h.1 a := by
  obtain ⟨o1, o2, n, o3, o4⟩ := o
  obtain ⟨m, m2, e1, e2, u1, u2, u3, u4, u5, u6⟩ := u
  cases o3.symm.trans e1
  refine ⟨⟨o1, fun q => ?_, m2, e2, by omega⟩, u4 a o4 o2⟩
  rcases u2 a q with w | w
  · exact o2 w
  · omega
theorem Own.w (o : Own h0 h F a) (e : h2.2 = h.2) : Own h0 h2 F a := by
  obtain ⟨o1, o2, n, o3, o4⟩ := o
  exact ⟨o1, o2, n, by rw [e]; exact o3, o4⟩
theorem at_w (A : AtC h b F P) (M : MvC h0 h Fs F x y) (o : Own h0 h F a) (e1 : ∀ c, c ≠ a → h2.1 c = h.1 c) (e2 : h2.2 = h.2) : AtC h2 b F P ∧ MvC h0 h2 Fs F x y := by
  obtain ⟨⟨n0, o1, o5⟩, o2, n, o3, o4⟩ := o
  obtain ⟨m, m2, f1, f2, u1, u2, u3, u4, u5, u6⟩ := M
  cases f1.symm.trans o1
  refine ⟨A.fr o3 (by rw [e2]; exact o3) (Nat.le_refl _) (fun c hc => e1 c (by omega)) (fun c hc => e1 c (fun q => o2 (q ▸ hc))), _, m2, f1, by rw [e2]; exact f2, u1, u2, u3, fun c hc hn => (e1 c (by omega)).trans (u4 c hc hn), by rw [e2]; exact u5, by rw [e2]; exact u6⟩
theorem at_n {n s : Nat} (A : AtC h b F P) (M : MvC h0 h Fs F x y) (hn : h.2.1 = some n) (e1 : ∀ c, c ≠ 72 + n → h2.1 c = h.1 c) (e2 : h2.2 = (some (n + 1), (h.2.2.1 + 1, h.2.2.2 + s))) : AtC h2 b F P ∧ MvC h0 h2 Fs F (x + 1) (y + s) ∧ Own h0 h2 F (72 + n) ∧ (∀ a, Own h0 h F a → Own h0 h2 F a ∧ a < 72 + n) := by
  obtain ⟨m, m2, f1, f2, u1, u2, u3, u4, u5, u6⟩ := M
  cases hn.symm.trans f2
  have e3 : h2.2.1 = some (n + 1) := congrArg Prod.fst e2
  have e4 : h2.2.2.1 = h.2.2.1 + 1 := congrArg (fun z => z.2.1) e2
  have e5 : h2.2.2.2 = h.2.2.2 + s := congrArg (fun z => z.2.2) e2
  have hF : ∀ c, F c → c < 72 + n := fun c hc => (u3 c hc).2
  refine ⟨A.fr hn e3 (Nat.le_succ _) (fun c hc => e1 c (by omega)) (fun c hc => e1 c (by have := hF c hc; omega)), ⟨m, n + 1, f1, e3, by omega, u2, fun c hc => ⟨(u3 c hc).1, by have := hF c hc; omega⟩, fun c hc hq => (e1 c (by omega)).trans (u4 c hc hq), by omega, by omega⟩, ⟨⟨m, f1, by omega⟩, fun q => by have := hF _ q; omega, n + 1, e3, by omega⟩, fun a o => ?_⟩
  obtain ⟨o1, o2, n2, o3, o4⟩ := o
  cases hn.symm.trans o3
  exact ⟨⟨o1, o2, n + 1, e3, by omega⟩, o4⟩
def RwI (h0 h : XH) (F : Nat → Prop) (c : Nat) (f : Nat → Int32) : Prop := h.1 c = some (.inl (0, (5, .inl f))) ∧ Own h0 h F c
def EsI (h0 h : XH) (F : Nat → Prop) (a cnt : Nat) (E : Nat → Option Nat) (r : Nat) (G : Nat → Int32) (n : Int32) (lim : Nat) : Prop := h.1 a = some (.inl (8, (cnt, .inr (.inr (.inr (.inr E)))))) ∧ (Own h0 h F a ∧ a < lim) ∧ ∀ i, i < r → ∃ c, E i = some c ∧ c < lim ∧ Own h0 h F c ∧ IA h.1 0 c 5 (eV G n i)
variable {cnt r lim : Nat} {E : Nat → Option Nat} {G : Nat → Int32} {n : Int32} {f : Nat → Int32}
theorem RwI.mv (R : RwI h0 h F c f) (u : MvC h h2 F F2 x y) : RwI h0 h2 F2 c f := by
  obtain ⟨o, e⟩ := R.2.mv u
  exact ⟨e.trans R.1, o⟩
theorem EsI.mv (I : EsI h0 h F a cnt E r G n lim) (u : MvC h h2 F F2 x y) : EsI h0 h2 F2 a cnt E r G n lim := by
  obtain ⟨i1, ⟨i2, i4⟩, i3⟩ := I
  obtain ⟨o, e⟩ := i2.mv u
  refine ⟨e.trans i1, ⟨o, i4⟩, fun i hi => ?_⟩
  obtain ⟨c, c1, c2, c3, c4⟩ := i3 i hi
  obtain ⟨o2, e2⟩ := c3.mv u
  exact ⟨c, c1, c2, o2, c4.fr e2⟩
theorem es_start (pc2 : Nat) {i : Nat} {vs : List Value} {q : Nat × Nat} (hr : xT.1 mid pc = some (.anewarray i, (q, (vs, [6])))) (hp : pc + 3 = pc2) (A : AtC h b F P) (M : MvC h0 h Fs F x y) {v : Int32} (hv : v = nI cnt) (h5 : cnt ≤ 5) (kk : ∀ h2 a, AtC h2 b F P → MvC h0 h2 Fs F (x + 1) (y + cnt) → EsI h0 h2 F a cnt (fun _ => none) 0 G n (a + 1) → yP S d mid pc2 lv (.ref a :: st) h2 Q) : yP S d mid pc lv (.int v :: st) h Q := by
  subst hv
  obtain ⟨m, hm, -⟩ := A.lt
  obtain ⟨fh, nh, ch, sh⟩ := h
  have hm : nh = some m := hm
  subst hm
  obtain ⟨i1, i2⟩ := xin_nI (show cnt < 65536 by omega) (Nat.le_refl _)
  refine ys_h pc2 hr rfl hp (st2 := .ref (72 + m) :: st) (h2 := (xup fh (72 + m) (.inl (8, (cnt, .inr (.inr (.inr (.inr (fun _ => none))))))), (some (m + 1), (ch + 1, sh + cnt)))) ?_ ?_
  · show xnewqI 72 (fh, (some m, (ch, sh))) (.int (nI cnt) :: st) = _
    unfold xnewqI
    simp only [i1, i2, cond_true]
  · obtain ⟨q1, q2, q3, -⟩ := at_n (h2 := (xup fh (72 + m) (.inl (8, (cnt, .inr (.inr (.inr (.inr (fun _ => none))))))), (some (m + 1), (ch + 1, sh + cnt)))) (s := cnt) A M rfl (fun c hc => xup_n hc) rfl
    exact kk _ _ q1 q2 ⟨xup_s, ⟨q3, Nat.lt_succ_self _⟩, fun i hi => absurd hi (Nat.not_lt_zero _)⟩
theorem es_new (pc2 : Nat) (hr : xT.1 mid pc = some (.newarray .int, k0)) (hp : pc + 2 = pc2) (A : AtC h b F P) (M : MvC h0 h Fs F x y) (I : EsI h0 h F a cnt E r G n lim) (kk : ∀ h2 c, AtC h2 b F P → MvC h0 h2 Fs F (x + 1) (y + 5) → EsI h0 h2 F a cnt E r G n c → RwI h0 h2 F c (fun _ => 0) → yP S d mid pc2 lv (.ref c :: st) h2 Q) : yP S d mid pc lv (.int 5 :: st) h Q := by
  obtain ⟨m, hm, -⟩ := A.lt
  obtain ⟨fh, nh, ch, sh⟩ := h
  have hm : nh = some m := hm
  subst hm
  refine ys_h pc2 hr rfl hp (st2 := .ref (72 + m) :: st) (h2 := (xup fh (72 + m) (.inl (0, (5, .inl (fun _ => 0)))), (some (m + 1), (ch + 1, sh + 5)))) rfl ?_
  obtain ⟨q1, q2, q3, q4⟩ := at_n (h2 := (xup fh (72 + m) (.inl (0, (5, .inl (fun _ => 0)))), (some (m + 1), (ch + 1, sh + 5)))) (s := 5) A M rfl (fun c hc => xup_n hc) rfl
  obtain ⟨i1, ⟨i2, i4⟩, i3⟩ := I
  obtain ⟨p1, p2⟩ := q4 a i2
  refine kk _ _ q1 q2 ⟨(xup_n (by omega)).trans i1, ⟨p1, p2⟩, fun i hi => ?_⟩ ⟨xup_s, q3⟩
  obtain ⟨c, c1, c2, c3, c4⟩ := i3 i hi
  obtain ⟨p3, p4⟩ := q4 c c3
  exact ⟨c, c1, p4, p3, c4.fr (xup_n (by omega))⟩
theorem es_put (pc2 : Nat) (hr : xT.1 mid pc = some (.iastore, k0)) (hp : pc + 1 = pc2) (A : AtC h b F P) (M : MvC h0 h Fs F x y) (I : EsI h0 h F a cnt E r G n c) (R : RwI h0 h F c f) (j : Nat) {idx v : Int32} (hidx : idx = nI j) (hj : j < 5) (kk : ∀ h2, AtC h2 b F P → MvC h0 h2 Fs F x y → EsI h0 h2 F a cnt E r G n c → RwI h0 h2 F c (upd f j v) → yP S d mid pc2 lv st h2 Q) : yP S d mid pc lv (.int v :: .int idx :: .ref c :: st) h Q := by
  refine ys_ast pc2 0 hr (fun _ _ => rfl) hp rfl rfl hidx R.1 rfl hj (show 5 ≤ 65536 by decide) rfl ?_
  have e1 : ∀ q, q ≠ c → xup h.1 c (.inl (0, ((5, .inl (upd f j v)) : vp_A))) q = h.1 q := fun q hq => xup_n hq
  obtain ⟨q1, q2⟩ := at_w (h2 := (xup h.1 c (.inl (0, ((5, .inl (upd f j v)) : vp_A))), h.2)) A M R.2 e1 rfl
  obtain ⟨i1, ⟨i2, i4⟩, i3⟩ := I
  refine kk _ q1 q2 ⟨(e1 _ (by omega)).trans i1, ⟨i2.w rfl, i4⟩, fun i hi => ?_⟩ ⟨xup_s, R.2.w rfl⟩
  obtain ⟨c2, c3, c4, c5, c6⟩ := i3 i hi
  exact ⟨c2, c3, c4, c5.w rfl, c6.fr (e1 _ (by omega))⟩
theorem es_row (pc2 : Nat) {q : Nat × Nat} {vs : List Value} (hr : xT.1 mid pc = some (.aastore, (q, (vs, [6])))) (hp : pc + 1 = pc2) (A : AtC h b F P) (M : MvC h0 h Fs F x y) (I : EsI h0 h F a cnt E r G n c) (R : RwI h0 h F c f) (hf : ∀ j, j < 5 → f j = eV G n r j) (hrc : r < cnt) (h5 : cnt ≤ 5) (kk : ∀ h2 E2, AtC h2 b F P → MvC h0 h2 Fs F x y → EsI h0 h2 F a cnt E2 (r + 1) G n (c + 1) → yP S d mid pc2 lv st h2 Q) : yP S d mid pc lv (.ref c :: .int (nI r) :: .ref a :: st) h Q := by
  obtain ⟨i1, ⟨i2, i4⟩, i3⟩ := I
  have hy : xset h 6 8 (cnt, .inr (.inr (.inr (.inr E)))) r (.ref c) = some (cnt, .inr (.inr (.inr (.inr (va_up E r (some c)))))) := by
    show (match h.1 c with
      | some (.inl q) => bif Nat.beq q.1 0 then some ((cnt, .inr (.inr (.inr (.inr (va_up E r (some c)))))) : vp_A) else none
      | _ => none) = _
    rw [R.1]
    rfl
  refine ys_ast pc2 6 hr (fun _ _ => rfl) hp rfl rfl rfl i1 rfl hrc (by show cnt ≤ 65536; omega) hy ?_
  have e1 : ∀ q, q ≠ a → xup h.1 a (.inl (8, ((cnt, .inr (.inr (.inr (.inr (va_up E r (some c)))))) : vp_A))) q = h.1 q := fun q hq => xup_n hq
  obtain ⟨q1, q2⟩ := at_w (h2 := (xup h.1 a (.inl (8, ((cnt, .inr (.inr (.inr (.inr (va_up E r (some c)))))) : vp_A))), h.2)) A M i2 e1 rfl
  refine kk _ _ q1 q2 ⟨xup_s, ⟨i2.w rfl, by omega⟩, fun i hi => ?_⟩
  by_cases hir : i = r
  · subst hir
    exact ⟨c, va_up_s, Nat.lt_succ_self _, R.2.w rfl, f, (e1 _ (by omega)).trans R.1, hf⟩
  · obtain ⟨c2, c3, c4, c5, c6⟩ := i3 i (by omega)
    have hne : c2 ≠ a := by
      intro z
      obtain ⟨F9, z1, -⟩ := c6
      rw [z] at z1
      rw [i1] at z1
      cases z1
    exact ⟨c2, (va_up_n hir).trans c3, by omega, c5.w rfl, c6.fr (e1 _ hne)⟩
end OWN
