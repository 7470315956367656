/-! the same where the law runs -/
def yP (S : XSc) (d mid pc : Nat) (lv : XLv) (st : List Value) (h : XH) (Q : XO → XH → Prop) : Prop := ∃ n z, xgo xT yX 12 72 (yro S.1 S.2) n d mid pc lv st h = some z ∧ Q z.1 z.2
section XW
variable {S : XSc} {d mid pc : Nat} {lv : XLv} {st : List Value} {h : XH} {Q : XO → XH → Prop} {e : XI}
theorem yP_mono {Q2 : XO → XH → Prop} (k : yP S d mid pc lv st h Q) (hq : ∀ o h', Q o h' → Q2 o h') : yP S d mid pc lv st h Q2 := by
  obtain ⟨n, z, h1, h2⟩ := k
  exact ⟨n, z, h1, hq _ _ h2⟩
theorem yP_up {b : Nat} (hb : d ≤ b) (k : yP S d mid pc lv st h Q) : yP S b mid pc lv st h Q := by
  obtain ⟨n, z, h1, h2⟩ := k
  exact ⟨n, z, xgo_dle h1 hb, h2⟩
/-- other locals that say as much -/
theorem yP_lv (lv2 : XLv) (hn : xnd lv2 = true) (hs : xsubL lv2 lv) (k : yP S d mid pc lv2 st h Q) : yP S d mid pc lv st h Q := by
  obtain ⟨n, z, h1, h2⟩ := k
  exact ⟨n, z, xgo_sub _ _ _ _ _ _ _ _ _ hn (xsubL_v _ _ hs) h1, h2⟩
/-- flow: loads, stores, constants, arithmetic, jumps -/
theorem ys_f (pc2 : Nat) {lv2 : XLv} {st2 : List Value} (hr : xT.1 mid pc = some e) (hx : xflow 12 (xT.2.1 mid).1 e pc lv st = some (pc2, (lv2, st2))) (k : yP S d mid pc2 lv2 st2 h Q) : yP S d mid pc lv st h Q := by
  obtain ⟨n, z, h1, h2⟩ := k
  exact ⟨n + 1, z, xgo_f hr hx h1, h2⟩
theorem ys_if (t f : Nat) {p : Prop} [hp : Decidable p] {st2 : List Value} (hr : xT.1 mid pc = some e) (hx : xflow 12 (xT.2.1 mid).1 e pc lv st = some (if p then t else f, (lv, st2))) (kt : p → yP S d mid t lv st2 h Q) (kf : ¬ p → yP S d mid f lv st2 h Q) : yP S d mid pc lv st h Q := by
  by_cases q : p
  · rw [if_pos q] at hx
    exact ys_f t hr hx (kt q)
  · rw [if_neg q] at hx
    exact ys_f f hr hx (kf q)
/-- heap rows -/
theorem ys_h (pc2 : Nat) (hr : xT.1 mid pc = some e) (ht : xthr e = none) (hp : pc + xle e = pc2) {st2 : List Value} {h2 : XH} (hx : xheap (yro S.1 S.2) 72 e st h = some (st2, h2)) (k : yP S d mid pc2 lv st2 h2 Q) : yP S d mid pc lv st h Q := by
  subst hp
  obtain ⟨n, z, h1, h3⟩ := k
  exact ⟨n + 1, z, xgo_h hr ht hx h1, h3⟩
theorem ys_get (pc2 : Nat) {i ci kk : Nat} {vs : List Value} {ts : List Nat} (hr : xT.1 mid pc = some (.getfield i, ((ci, kk), (vs, ts)))) (hp : pc + 3 = pc2) (hts : Nat.beq (ts.headD 9) 4 = false) {a : Nat} {fs : List Value} {v : Value} (hf : h.1 a = some (.inr (ci, fs))) (hv : fs[kk]? = some v) (k : yP S d mid pc2 lv (v :: st) h Q) : yP S d mid pc lv (.ref a :: st) h Q := by
  refine ys_h pc2 hr rfl hp ?_ k
  show (bif Nat.beq (ts.headD 9) 4 then none else xgh h (xget1 ci kk h (.ref a :: st))) = _
  rw [hts]
  show xgh h (xget1 ci kk h (.ref a :: st)) = _
  unfold xget1
  simp only [hf, Nat.beq_refl, cond_true, hv]
  rfl
theorem ys_put (pc2 : Nat) {i ci kk : Nat} {vs : List Value} {ts : List Nat} (hr : xT.1 mid pc = some (.putfield i, ((ci, kk), (vs, ts)))) (hp : pc + 3 = pc2) {a : Nat} {fs : List Value} {v : Value} (hf : h.1 a = some (.inr (ci, fs))) (hv : xfit (ts.headD 9) v = true) (hk : Nat.blt kk fs.length = true) (k : yP S d mid pc2 lv st (xup h.1 a (.inr (ci, fs.set kk v)), h.2) Q) : yP S d mid pc lv (v :: .ref a :: st) h Q := by
  refine ys_h pc2 hr rfl hp ?_ k
  show xput1 ci kk (ts.headD 9) h (v :: .ref a :: st) = _
  unfold xput1
  simp only [hf, Nat.beq_refl, hv, hk, Bool.and_self, cond_true]
theorem ys_gst (pc2 : Nat) {i : Nat} {q : Nat × Nat} {v : Value} {ts : List Nat} (hr : xT.1 mid pc = some (.getstatic i, (q, ([v], ts)))) (hp : pc + 3 = pc2) (k : yP S d mid pc2 lv (v :: st) h Q) : yP S d mid pc lv st h Q :=
  ys_h pc2 hr rfl hp rfl k
theorem yarr_h {a : Nat} {q : Nat × vp_A} {ro : Nat → Option (Nat × vp_A)} (h32 : 72 ≤ a) (ha : h.1 a = some (.inl q)) : xarr ro 72 h a = some q := by
  unfold xarr
  rw [xblt_f h32]
  show (match h.1 a with | some (.inl q) => some q | _ => none) = some q
  rw [ha]
theorem yarr_r {a : Nat} {q : Nat × vp_A} {ro : Nat → Option (Nat × vp_A)} (h32 : Nat.blt a 72 = true) (ha : ro a = some q) : xarr ro 72 h a = some q := by
  unfold xarr
  rw [h32]
  exact ha
/-- an element is read: kk the kind of the row -/
theorem ys_ald (pc2 kk : Nat) {k0 : XK} {i : Instr} (hr : xT.1 mid pc = some (i, k0)) (hi : ∀ ro st, xheap ro 72 (i, k0) st h = xgh h (xald ro 72 h kk st)) (hp : pc + 1 = pc2) (ht : xthr (i, k0) = none) (hl : xle (i, k0) = 1) {a t j : Nat} {idx : Int32} (hidx : idx = nI j) {x : vp_A} {v : Value} (ha : xarr (yro S.1 S.2) 72 h a = some (t, x)) (htk : xtk kk t = true) (hj : j < x.1) (hn : x.1 ≤ 65536) (hv : xsl x j = v) (k : yP S d mid pc2 lv (v :: st) h Q) : yP S d mid pc lv (.int idx :: .ref a :: st) h Q := by
  subst hidx
  obtain ⟨h1, h2⟩ := xin_nI hj hn
  refine ys_h pc2 hr ht (by rw [hl]; exact hp) (st2 := v :: st) (h2 := h) ?_ k
  rw [hi]
  unfold xald
  simp only [ha, htk, h1, h2, Bool.and_self, cond_true, hv]
  rfl
/-- an element is written -/
theorem ys_ast (pc2 kk : Nat) {k0 : XK} {i : Instr} (hr : xT.1 mid pc = some (i, k0)) (hi : ∀ ro st, xheap ro 72 (i, k0) st h = xast h kk st) (hp : pc + 1 = pc2) (ht : xthr (i, k0) = none) (hl : xle (i, k0) = 1) {a t j : Nat} {idx : Int32} (hidx : idx = nI j) {x y : vp_A} {v : Value} (ha : h.1 a = some (.inl (t, x))) (htk : xtk kk t = true) (hj : j < x.1) (hn : x.1 ≤ 65536) (hy : xset h kk t x j v = some y) (k : yP S d mid pc2 lv st (xup h.1 a (.inl (t, y)), h.2) Q) : yP S d mid pc lv (v :: .int idx :: .ref a :: st) h Q := by
  subst hidx
  obtain ⟨h1, h2⟩ := xin_nI hj hn
  refine ys_h pc2 hr ht (by rw [hl]; exact hp) (st2 := st) ?_ k
  rw [hi]
  unfold xast
  simp only [ha, htk, h1, h2, Bool.and_self, cond_true, hy]
theorem ys_len (pc2 : Nat) {k0 : XK} (hr : xT.1 mid pc = some (.arraylength, k0)) (hp : pc + 1 = pc2) {a t : Nat} {x : vp_A} (ha : xarr (yro S.1 S.2) 72 h a = some (t, x)) (k : yP S d mid pc2 lv (.int (nI x.1) :: st) h Q) : yP S d mid pc lv (.ref a :: st) h Q := by
  refine ys_h pc2 hr rfl hp (st2 := .int (nI x.1) :: st) (h2 := h) ?_ k
  show xgh h (xln (yro S.1 S.2) 72 h (.ref a :: st)) = _
  unfold xln
  simp only [ha]
  rfl
/-- the ends -/
theorem ys_ret {v : Option Value} (hr : xT.1 mid pc = some e) (hx : xret (xT.2.1 mid).2.1 e.1 st = some v) (k : Q (.inl v) h) : yP S d mid pc lv st h Q :=
  ⟨1, _, xgo_r hr hx, k⟩
theorem ys_thr {E : Nat} (hr : xT.1 mid pc = some e) (hx : xthr e = some E) (k : Q (.inr E) (xbump h)) : yP S d mid pc lv [] h Q :=
  ⟨1, _, xgo_t hr hx, k⟩
theorem ys_ext (pc2 : Nat) {q : List Value × List Value} {r : Option Value × XH} {st2 : List Value} (hr : xT.1 mid pc = some e) (hp : pc + 3 = pc2) (hc : xcall e st = some (4, q)) (hX : yX e.2.1.1 q.1 h = some r) (hs : r.1.toList ++ q.2 = st2) (k : yP S d mid pc2 lv st2 r.2 Q) : yP S d mid pc lv st h Q := by
  subst hp; subst hs
  obtain ⟨n, z, h1, h2⟩ := k
  exact ⟨n + 1, z, xgo_x hr hc hX h1, h2⟩
theorem ys_obj (pc2 : Nat) {q : List Value × List Value} (hr : xT.1 mid pc = some e) (hp : pc + 3 = pc2) (hc : xcall e st = some (5, q)) (hq : xref1 q.1 = true) (k : yP S d mid pc2 lv q.2 h Q) : yP S d mid pc lv st h Q := by
  subst hp
  obtain ⟨n, z, h1, h2⟩ := k
  exact ⟨n + 1, z, xgo_o hr hc hq h1, h2⟩
/-- what follows a call -/
def yK (S : XSc) (d mid pc : Nat) (lv : XLv) (rest : List Value) (k : Nat) (Q : XO → XH → Prop) (o : XO) (h : XH) : Prop := match o with
  | .inl v => yP S d mid (pc + 3) lv (v.toList ++ rest) h Q
  | .inr E => Nat.blt k 2 = true ∧ match xcatch (xT.2.2 mid) pc E with
    | none => Q (.inr E) h
    | some hp => ∃ w, xkeep (xT.1 mid hp) hp (xT.2.1 mid).1 = some w ∧ yP S d mid w.1 (xcl1 w.2 lv) [] h Q
theorem ys_call {kk c : Nat} {as rest : List Value} {lv2 : XLv} (hr : xT.1 mid pc = some e) (hc : xcall e st = some (kk, (as, rest))) (he : e.2.1.1 = c) (hk : kk < 4) (hcan : xcan 72 kk (xT.2.1 c) h as = true) (hlv : lv_args 0 as = lv2) (k : yP S d c 0 lv2 [] h (yK S (d + 1) mid pc lv rest kk Q)) : yP S (d + 1) mid pc lv st h Q := by
  subst he; subst hlv
  obtain ⟨n, ⟨o, h2⟩, h1, h3⟩ := k
  cases o with
  | inl v =>
    obtain ⟨n2, z, g1, g2⟩ := (show yP S (d + 1) mid (pc + 3) lv (v.toList ++ rest) h2 Q from h3)
    refine ⟨max n n2 + 1, z, xgo_c hr hc hk hcan (xgo_le h1 (Nat.le_max_left _ _)) (xgo_le g1 (Nat.le_max_right _ _)), g2⟩
  | inr E =>
    obtain ⟨h4, h5⟩ := h3
    have h4 : kk < 2 := xlt h4
    dsimp only at h5
    cases hq : xcatch (xT.2.2 mid) pc E with
    | none =>
      rw [hq] at h5
      exact ⟨n + 1, _, xgo_e hr hc hk hcan h1 h4 hq, h5⟩
    | some hp =>
      rw [hq] at h5
      obtain ⟨w, hw, n2, z, g1, g2⟩ := h5
      exact ⟨max n n2 + 1, z, xgo_k hr hc hk hcan (xgo_le h1 (Nat.le_max_left _ _)) h4 hq hw (xgo_le g1 (Nat.le_max_right _ _)), g2⟩
theorem yK_v {kk pc2 : Nat} {rest : List Value} {v : Value} (hp : pc + 3 = pc2) (k : yP S d mid pc2 lv (v :: rest) h Q) : yK S d mid pc lv rest kk Q (.inl (some v)) h := by
  subst hp
  exact k
theorem yK_0 {kk pc2 : Nat} {rest : List Value} (hp : pc + 3 = pc2) (k : yP S d mid pc2 lv rest h Q) : yK S d mid pc lv rest kk Q (.inl none) h := by
  subst hp
  exact k
theorem yK_e {kk E : Nat} {rest : List Value} (h1 : Nat.blt kk 2 = true) (h2 : xcatch (xT.2.2 mid) pc E = none) (k : Q (.inr E) h) : yK S d mid pc lv rest kk Q (.inr E) h := by
  refine ⟨h1, ?_⟩
  rw [h2]
  exact k
theorem yK_c {kk E hp w1 w2 : Nat} {rest : List Value} {lv2 : XLv} (h1 : Nat.blt kk 2 = true) (h2 : xcatch (xT.2.2 mid) pc E = some hp) (h3 : xkeep (xT.1 mid hp) hp (xT.2.1 mid).1 = some (w1, w2)) (h4 : xcl1 w2 lv = lv2) (k : yP S d mid w1 lv2 [] h Q) : yK S d mid pc lv rest kk Q (.inr E) h := by
  subst h4
  refine ⟨h1, ?_⟩
  rw [h2]
  exact ⟨_, h3, k⟩
end XW
