/-! walking a run: one row an instruction -/
abbrev XSc : Type := Nat × (Nat → Int32)
def xnd : XLv → Bool
  | [] => true
  | q :: r => r.all (fun w => !(Nat.beq w.1 q.1)) && xnd r
def xsubv (a b : XLv) : Prop := ∀ i v, xget a i = some v → xget b i = some v
theorem xget_none {lv : XLv} {i : Nat} (h : lv.all (fun w => !(Nat.beq w.1 i)) = true) : xget lv i = none := by
  induction lv with
  | nil => rfl
  | cons q r ih =>
    have h1 : (!(Nat.beq q.1 i)) = true ∧ r.all (fun w => !(Nat.beq w.1 i)) = true := by
      rw [List.all_cons] at h
      exact Bool.and_eq_true_iff.mp h
    unfold xget
    cases hj : Nat.beq q.1 i with
    | true =>
      have h3 := h1.1
      rw [hj] at h3
      cases h3
    | false => exact ih h1.2
/-- a filter that keeps the first of a name, keeps what it says -/
theorem xget_keep {p : Nat × Value → Bool} {lv : XLv} {i : Nat} {v : Value} (h : xget lv i = some v) (hp : p (i, v) = true) : xget (lv.filter p) i = some v := by
  induction lv with
  | nil => cases h
  | cons q r ih =>
    obtain ⟨j, w⟩ := q
    unfold xget at h
    cases hj : Nat.beq j i with
    | true =>
      rw [hj] at h
      have e1 : j = i := Nat.eq_of_beq_eq_true hj
      have e2 : w = v := Option.some.inj h
      subst e1; subst e2
      rw [List.filter_cons_of_pos hp]
      unfold xget
      rw [Nat.beq_refl]
      rfl
    | false =>
      rw [hj] at h
      have h : xget r i = some v := h
      cases hq : p (j, w) with
      | true =>
        rw [List.filter_cons_of_pos hq]
        unfold xget
        rw [hj]
        exact ih h
      | false =>
        rw [List.filter_cons_of_neg (by rw [hq]; exact Bool.false_ne_true)]
        exact ih h
theorem xnd_all {p : Nat × Value → Bool} {i : Nat} {lv : XLv} (h : lv.all (fun w => !(Nat.beq w.1 i)) = true) : (lv.filter p).all (fun w => !(Nat.beq w.1 i)) = true :=
  List.all_eq_true.mpr (fun w hw => List.all_eq_true.mp h w (List.mem_filter.mp hw).1)
theorem xget_back {p : Nat × Value → Bool} {lv : XLv} {i : Nat} {v : Value} (hn : xnd lv = true) (h : xget (lv.filter p) i = some v) : xget lv i = some v ∧ p (i, v) = true := by
  induction lv with
  | nil => cases h
  | cons q r ih =>
    obtain ⟨j, w⟩ := q
    obtain ⟨h1, h2⟩ := Bool.and_eq_true_iff.mp (show (r.all (fun w => !(Nat.beq w.1 j)) && xnd r) = true from hn)
    cases hq : p (j, w) with
    | true =>
      rw [List.filter_cons_of_pos hq] at h
      unfold xget at h ⊢
      cases hj : Nat.beq j i with
      | true =>
        rw [hj] at h
        have e1 : j = i := Nat.eq_of_beq_eq_true hj
        have e2 : w = v := Option.some.inj h
        subst e1; subst e2
        exact ⟨rfl, hq⟩
      | false =>
        rw [hj] at h
        exact ih h2 h
    | false =>
      rw [List.filter_cons_of_neg (by rw [hq]; exact Bool.false_ne_true)] at h
      obtain ⟨g1, g2⟩ := ih h2 h
      refine ⟨?_, g2⟩
      unfold xget
      cases hj : Nat.beq j i with
      | true =>
        have e1 : j = i := Nat.eq_of_beq_eq_true hj
        subst e1
        rw [xget_none h1] at g1
        cases g1
      | false => exact g1
theorem xnd_filter {p : Nat × Value → Bool} {lv : XLv} (h : xnd lv = true) : xnd (lv.filter p) = true := by
  induction lv with
  | nil => rfl
  | cons q r ih =>
    obtain ⟨h1, h2⟩ := Bool.and_eq_true_iff.mp (show (r.all (fun w => !(Nat.beq w.1 q.1)) && xnd r) = true from h)
    cases hq : p q with
    | true =>
      rw [List.filter_cons_of_pos hq]
      show ((r.filter p).all (fun w => !(Nat.beq w.1 q.1)) && xnd (r.filter p)) = true
      rw [xnd_all h1, ih h2]
      rfl
    | false =>
      rw [List.filter_cons_of_neg (by rw [hq]; exact Bool.false_ne_true)]
      exact ih h2
theorem xsub_filter {p : Nat × Value → Bool} {a b : XLv} (hn : xnd a = true) (h : xsubv a b) : xsubv (a.filter p) (b.filter p) := fun i v hv => by
  obtain ⟨g1, g2⟩ := xget_back hn hv
  exact xget_keep (h i v g1) g2
theorem xsub_cons {a b : XLv} {j : Nat} {w : Value} (h : xsubv a b) : xsubv ((j, w) :: a) ((j, w) :: b) := fun i v hv => by
  unfold xget at hv ⊢
  cases hj : Nat.beq j i with
  | true => rw [hj] at hv; exact hv
  | false => rw [hj] at hv; exact h i v hv
theorem xnd_cons {lv : XLv} {p : Nat × Value → Bool} {i : Nat} {v : Value} (h : xnd lv = true) (hp : ∀ w : Nat × Value, p w = true → ¬ w.1 = i) : xnd ((i, v) :: lv.filter p) = true := by
  show ((lv.filter p).all (fun w => !(Nat.beq w.1 i)) && xnd (lv.filter p)) = true
  rw [xnd_filter h, Bool.and_true]
  refine List.all_eq_true.mpr (fun w hw => ?_)
  have := hp w (List.mem_filter.mp hw).2
  cases hq : Nat.beq w.1 i with
  | false => rfl
  | true => exact absurd (Nat.eq_of_beq_eq_true hq) this
theorem xcl1_p {i : Nat} (w : Nat × Value) (h : (!(w.1 == i) && !(w.1 + 1 == i && w.2.category == 2)) = true) : ¬ w.1 = i := fun e => by
  rw [e] at h
  simp at h
theorem xcl2_p {i : Nat} (w : Nat × Value) (h : (!(w.1 == i) && (!(w.1 == i + 1) && !(w.1 + 1 == i && w.2.category == 2))) = true) : ¬ w.1 = i := fun e => by
  rw [e] at h
  simp at h
theorem xld_sub {a b : XLv} (h : xsubv a b) {i t : Nat} {st r : List Value} (q : xld a i t st = some r) : xld b i t st = some r := by
  unfold xld at q ⊢
  cases hv : xget a i with
  | none => rw [hv] at q; simp at q
  | some v => rw [hv] at q; rw [h i v hv]; exact q
theorem xsto_sub {nL : Nat} {a b : XLv} (hn : xnd a = true) (h : xsubv a b) {i t : Nat} {st : List Value} {r : XLv × List Value} (q : xsto nL a i t st = some r) : ∃ b', xsto nL b i t st = some (b', r.2) ∧ xnd r.1 = true ∧ xsubv r.1 b' := by
  unfold xsto at q ⊢
  split at q <;> first | (obtain ⟨q1, q2⟩ := xbif q; cases q2; refine ⟨_, by rw [q1]; rfl, xnd_cons hn (fun w hw => xcl1_p w hw), xsub_cons (xsub_filter hn h)⟩) | (obtain ⟨q1, q2⟩ := xbif q; cases q2; refine ⟨_, by rw [q1]; rfl, xnd_cons hn (fun w hw => xcl2_p w hw), xsub_cons (xsub_filter hn h)⟩) | cases q
theorem xinc_sub {nL : Nat} {a b : XLv} (hn : xnd a = true) (h : xsubv a b) {i : Nat} {vs : List Value} {r : XLv} (q : xinc nL a i vs = some r) : ∃ b', xinc nL b i vs = some b' ∧ xnd r = true ∧ xsubv r b' := by
  unfold xinc at q ⊢
  split at q
  · rename_i x q0 hx
    rw [h _ _ hx]
    obtain ⟨q1, q2⟩ := xbif q
    cases q2
    refine ⟨_, by rw [q1]; rfl, xnd_cons hn (fun w hw => xcl1_p w hw), xsub_cons (xsub_filter hn h)⟩
  · cases q
theorem xflow_sub {nE nL : Nat} {e : XI} {pc : Nat} {a b : XLv} (hn : xnd a = true) (h : xsubv a b) {st : List Value} {r : Nat × (XLv × List Value)} (q : xflow nE nL e pc a st = some r) : ∃ b', xflow nE nL e pc b st = some (r.1, (b', r.2.2)) ∧ xnd r.2.1 = true ∧ xsubv r.2.1 b' := by
  have gS : ∀ {n : Nat} {x y : Option (List Value)}, xgoS n a x = some r → (∀ z, x = some z → y = some z) → ∃ b', xgoS n b y = some (r.1, (b', r.2.2)) ∧ xnd r.2.1 = true ∧ xsubv r.2.1 b' := by
    intro n x y g hy
    cases x with
    | none => cases g
    | some z => cases g; rw [hy z rfl]; exact ⟨b, rfl, hn, h⟩
  have gV : ∀ {n i t : Nat}, xgoV n (xsto nL a i t st) = some r → ∃ b', xgoV n (xsto nL b i t st) = some (r.1, (b', r.2.2)) ∧ xnd r.2.1 = true ∧ xsubv r.2.1 b' := by
    intro n i t g
    cases hx : xsto nL a i t st with
    | none => rw [hx] at g; cases g
    | some z =>
      rw [hx] at g
      cases g
      obtain ⟨b', e1, e2, e3⟩ := xsto_sub hn h hx
      exact ⟨b', by rw [e1]; rfl, e2, e3⟩
  have gB : ∀ {x : Option (Nat × List Value)}, xgoB a x = some r → ∃ b', xgoB b x = some (r.1, (b', r.2.2)) ∧ xnd r.2.1 = true ∧ xsubv r.2.1 b' := by
    intro x g
    cases x with
    | none => cases g
    | some z => cases g; exact ⟨b, rfl, hn, h⟩
  obtain ⟨i, k⟩ := e
  cases i
  case iload j => exact gS q (fun z hz => xld_sub h hz)
  case iload_n j => exact gS q (fun z hz => xld_sub h hz)
  case lload j => exact gS q (fun z hz => xld_sub h hz)
  case lload_n j => exact gS q (fun z hz => xld_sub h hz)
  case fload j => exact gS q (fun z hz => xld_sub h hz)
  case fload_n j => exact gS q (fun z hz => xld_sub h hz)
  case dload j => exact gS q (fun z hz => xld_sub h hz)
  case dload_n j => exact gS q (fun z hz => xld_sub h hz)
  case aload j => exact gS q (fun z hz => xld_sub h hz)
  case aload_n j => exact gS q (fun z hz => xld_sub h hz)
  case istore j => exact gV q
  case istore_n j => exact gV q
  case lstore j => exact gV q
  case lstore_n j => exact gV q
  case fstore j => exact gV q
  case fstore_n j => exact gV q
  case dstore j => exact gV q
  case dstore_n j => exact gV q
  case astore j => exact gV q
  case astore_n j => exact gV q
  case iinc j n =>
    have q : xgoI (pc + 3) st (xinc nL a j k.2.1) = some r := q
    cases hx : xinc nL a j k.2.1 with
    | none => rw [hx] at q; cases q
    | some z =>
      rw [hx] at q
      cases q
      obtain ⟨b', e1, e2, e3⟩ := xinc_sub hn h hx
      exact ⟨b', (show xgoI (pc + 3) st (xinc nL b j k.2.1) = _ by rw [e1]; rfl), e2, e3⟩
  case goto j => cases q; exact ⟨b, rfl, hn, h⟩
  case ifCond c j => exact gB q
  case if_icmp c j => exact gB q
  case if_acmp c j => exact gB q
  case ifnull j => exact gB q
  case ifnonnull j => exact gB q
  case tableswitch c lo hi j => exact gB q
  case lookupswitch c j => exact gB q
  all_goals first | (cases q; done) | (cases q; exact ⟨b, rfl, hn, h⟩) | exact gS q (fun z hz => hz) | (unfold xflow at q ⊢; dsimp only at q ⊢; exact gS q (fun z hz => hz)) | (unfold xflow at q ⊢; exact gS q (fun z hz => hz))
/-- fewer locals, another order: the run is the same -/
theorem xgo_sub {T : XT} {X : XX} {nE nr : Nat} {ro : Nat → Option (Nat × vp_A)} : ∀ (n d mid pc : Nat) (a b : XLv) (st : List Value) (h : XH) (z : XO × XH), xnd a = true → xsubv a b → xgo T X nE nr ro n d mid pc a st h = some z → xgo T X nE nr ro n d mid pc b st h = some z := by
  intro n
  induction n with
  | zero =>
    intro d mid pc a b st h z hn hs hz
    rw [xgo] at hz
    cases hz
  | succ n ih =>
    intro d mid pc a b st h z hn hs hz
    obtain ⟨e, he, c⟩ := xgo_cases hz
    rcases c with ⟨r, h1, k⟩ | ⟨E, h1, rfl, rfl⟩ | ⟨r, ht, h1, k⟩ | ⟨v, h1, rfl⟩ | ⟨q, r, h1, hX, k⟩ | ⟨q, h1, hq1, k⟩ | ⟨k, q, d1, r, h1, hk, hc, rfl, hr, c⟩
    · obtain ⟨b', e1, e2, e3⟩ := xflow_sub hn hs h1
      exact xgo_f he e1 (ih _ _ _ _ _ _ _ _ e2 e3 k)
    · exact xgo_t he h1
    · exact xgo_h he ht h1 (ih _ _ _ _ _ _ _ _ hn hs k)
    · exact xgo_r he h1
    · exact xgo_x he h1 hX (ih _ _ _ _ _ _ _ _ hn hs k)
    · exact xgo_o he h1 hq1 (ih _ _ _ _ _ _ _ _ hn hs k)
    · obtain ⟨ro1, h2⟩ := r
      rcases c with ⟨v, hv, kk⟩ | ⟨E2, hE2, hk2, hn1, hz1⟩ | ⟨E2, hp, w, hE2, hk2, hn1, hw, kk⟩
      · cases hv
        exact xgo_c he h1 hk hc hr (ih _ _ _ _ _ _ _ _ hn hs kk)
      · cases hE2
        cases hz1
        exact xgo_e he h1 hk hc hr hk2 hn1
      · cases hE2
        exact xgo_k he h1 hk hc hr hk2 hn1 hw (ih _ _ _ _ _ _ _ _ (xnd_filter hn) (xsub_filter hn hs) kk)
