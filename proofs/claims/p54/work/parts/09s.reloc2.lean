/-! a run at other addresses, part two: the heap, and the run itself -/
def ORf (r : Nat → Nat → Prop) (x y : Option Nat) : Prop := match x, y with
  | none, none => True
  | some a, some b => r a b
  | _, _ => False
def AR (r : Nat → Nat → Prop) (x y : vp_A) : Prop := y.1 = x.1 ∧ match x.2 with
  | .inl f => y.2 = .inl f
  | .inr (.inl f) => y.2 = .inr (.inl f)
  | .inr (.inr (.inl f)) => y.2 = .inr (.inr (.inl f))
  | .inr (.inr (.inr (.inl f))) => y.2 = .inr (.inr (.inr (.inl f)))
  | .inr (.inr (.inr (.inr f))) => ∃ g, y.2 = .inr (.inr (.inr (.inr g))) ∧ ∀ j, j < x.1 → ORf r (f j) (g j)
def ER (r : Nat → Nat → Prop) (x y : XE) : Prop := match x with
  | .inl q => ∃ z, y = .inl (q.1, z) ∧ AR r q.2 z
  | .inr q => ∃ gs, y = .inr (q.1, gs) ∧ LR r q.2 gs
def HR (nA nB : Nat) (r : Nat → Nat → Prop) (h h' : XH) : Prop :=
  (∀ a b, r a b → (a < nA ∧ b = a ∧ a < nB ∧ h.1 a = none ∧ h'.1 a = none) ∨ (nA ≤ a ∧ nB ≤ b ∧ ∃ x y, h.1 a = some x ∧ h'.1 b = some y ∧ ER r x y)) ∧ (∀ a, a < nA → r a a) ∧ (∀ a b c d, r a b → r c d → (a = c ↔ b = d)) ∧ (∀ a x, h.1 a = some x → ∃ b, r a b) ∧ ∃ n m, h.2.1 = some n ∧ h'.2.1 = some m ∧ ∀ a b, r a b → a < nA + n ∧ b < nB + m
/-- how a run has moved: new pairs lie behind, all else is as before, the counts grow alike -/
def HX (nB : Nat) (r r2 : Nat → Nat → Prop) (h h' k k' : XH) : Prop :=
  (∀ a b, r a b → r2 a b) ∧ (∀ m, h'.2.1 = some m → (∀ a b, r2 a b → r a b ∨ nB + m ≤ b) ∧ (∀ c, c < nB + m → (∀ a, ¬ r a c) → k'.1 c = h'.1 c) ∧ ∃ m2, k'.2.1 = some m2 ∧ m ≤ m2) ∧ k'.2.2.1 + h.2.2.1 = h'.2.2.1 + k.2.2.1 ∧ k'.2.2.2 + h.2.2.2 = h'.2.2.2 + k.2.2.2
section REL2
variable {nA nB : Nat} {r r2 r3 : Nat → Nat → Prop} {h h' k k' l l' : XH} {ro ro' : Nat → Option (Nat × vp_A)}
theorem ORf.mono (hm : ∀ a b, r a b → r2 a b) {x y : Option Nat} (q : ORf r x y) : ORf r2 x y := by
  cases x with
  | none => cases y with
    | none => trivial
    | some b => exact q.elim
  | some a => cases y with
    | none => exact q.elim
    | some b => exact hm _ _ q
theorem AR.mono (hm : ∀ a b, r a b → r2 a b) {x y : vp_A} (q : AR r x y) : AR r2 x y := by
  obtain ⟨n, f | f | f | f | f⟩ := x
  · exact q
  · exact q
  · exact q
  · exact q
  · obtain ⟨q1, g, q2, q3⟩ := q
    exact ⟨q1, g, q2, fun j hj => (q3 j hj).mono hm⟩
theorem ER.mono (hm : ∀ a b, r a b → r2 a b) {x y : XE} (q : ER r x y) : ER r2 x y := by
  cases x with
  | inl z => obtain ⟨w, e, q⟩ := q; exact ⟨w, e, q.mono hm⟩
  | inr z => obtain ⟨w, e, q⟩ := q; exact ⟨w, e, q.mono hm⟩
theorem OVR.mono (hm : ∀ a b, r a b → r2 a b) {v w : Option Value} (q : OVR r v w) : OVR r2 v w := by
  cases v with
  | none => cases w with
    | none => trivial
    | some b => exact q.elim
  | some a => cases w with
    | none => exact q.elim
    | some b => exact VR.mono hm q
theorem HX.rf (H : HR nA nB r h h') : HX nB r r h h' h h' := by
  obtain ⟨n, m, h1, h2, h3⟩ := H.2.2.2.2
  exact ⟨fun _ _ q => q, fun m2 e => ⟨fun _ _ q => Or.inl q, fun _ _ _ => rfl, m2, e, Nat.le_refl _⟩, rfl, rfl⟩
theorem HX.tr (x : HX nB r r2 h h' k k') (y : HX nB r2 r3 k k' l l') : HX nB r r3 h h' l l' := by
  obtain ⟨x1, x2, x3, x4⟩ := x
  obtain ⟨y1, y2, y3, y4⟩ := y
  refine ⟨fun a b q => y1 a b (x1 a b q), fun m e => ?_, by omega, by omega⟩
  obtain ⟨p1, p2, m2, e2, p3⟩ := x2 m e
  obtain ⟨q1, q2, m3, e3, q3⟩ := y2 m2 e2
  refine ⟨fun a b q => ?_, fun c hc hn => ?_, m3, e3, by omega⟩
  · rcases q1 a b q with z | z
    · exact p1 a b z
    · exact Or.inr (by omega)
  · refine (q2 c (by omega) (fun a z => ?_)).trans (p2 c hc hn)
    rcases p1 a c z with w | w
    · exact hn a w
    · omega
theorem xsl_r {x y : vp_A} (q : AR r x y) (j : Nat) (hj : j < x.1) : VR r (xsl x j) (xsl y j) := by
  obtain ⟨n, f | f | f | f | f⟩ := x
  · obtain ⟨m, y⟩ := y; obtain ⟨q1, q2⟩ := q; cases q2; rfl
  · obtain ⟨m, y⟩ := y; obtain ⟨q1, q2⟩ := q; cases q2; rfl
  · obtain ⟨m, y⟩ := y; obtain ⟨q1, q2⟩ := q; cases q2; rfl
  · obtain ⟨m, y⟩ := y; obtain ⟨q1, q2⟩ := q; cases q2; rfl
  · obtain ⟨m, y⟩ := y
    obtain ⟨q1, g, q2, q3⟩ := q
    cases q2
    have q4 := q3 j hj
    show VR r (va_rf (f j)) (va_rf (g j))
    cases hf : f j with
    | none =>
      rw [hf] at q4
      cases hg : g j with
      | none => rfl
      | some b => rw [hg] at q4; exact q4.elim
    | some a =>
      rw [hf] at q4
      cases hg : g j with
      | none => rw [hg] at q4; exact q4.elim
      | some b => rw [hg] at q4; exact ⟨b, rfl, q4⟩
theorem HR.cell (H : HR nA nB r h h') {a b : Nat} (hr : r a b) {x : XE} (hx : h.1 a = some x) : nA ≤ a ∧ nB ≤ b ∧ ∃ y, h'.1 b = some y ∧ ER r x y := by
  rcases H.1 a b hr with ⟨-, -, -, q, -⟩ | ⟨h1, h2, x2, y, e1, e2, q⟩
  · rw [hx] at q; cases q
  · rw [hx] at e1
    cases e1
    exact ⟨h1, h2, y, e2, q⟩
theorem xarr_rel (H : HR nA nB r h h') (hn : nA ≤ nB) (hro : ∀ a t x, a < nA → ro a = some (t, x) → ro' a = some (t, x) ∧ AR r x x) {a b t : Nat} {x : vp_A} (hr : r a b) (h1 : xarr ro nA h a = some (t, x)) : ∃ y, xarr ro' nB h' b = some (t, y) ∧ AR r x y := by
  unfold xarr at h1
  cases hb : Nat.blt a nA with
  | true =>
    rw [hb] at h1
    have ha := xlt hb
    rcases H.1 a b hr with ⟨-, q, -⟩ | ⟨q, -⟩
    · subst q
      obtain ⟨e1, e2⟩ := hro b t x ha h1
      refine ⟨x, ?_, e2⟩
      unfold xarr
      rw [show Nat.blt b nB = true from Nat.ble_eq_true_of_le (by omega)]
      exact e1
    · omega
  | false =>
    rw [hb] at h1
    change (match h.1 a with | some (.inl q) => some q | _ => none) = some (t, x) at h1
    split at h1
    · rename_i q hq
      cases h1
      obtain ⟨g1, g2, y, g3, z, rfl, g4⟩ := H.cell hr hq
      refine ⟨z, ?_, g4⟩
      unfold xarr
      have hb2 : Nat.blt b nB = false := by
        cases hq2 : Nat.blt b nB with
        | false => rfl
        | true => exact absurd (xlt hq2) (by omega)
      rw [hb2]
      show (match h'.1 b with | some (.inl q) => some q | _ => none) = some (t, z)
      rw [g3]
    · cases h1
theorem AR.size {x y : vp_A} (q : AR r x y) : y.1 = x.1 := q.1
theorem HR.up (H : HR nA nB r h h') {a b : Nat} (hr : r a b) (hA : nA ≤ a) {x y : XE} (he : ER r x y) : HR nA nB r (xup h.1 a x, h.2) (xup h'.1 b y, h'.2) ∧ HX nB r r h h' (xup h.1 a x, h.2) (xup h'.1 b y, h'.2) := by
  obtain ⟨H1, H2, H3, HT, n, m, e1, e2, H4⟩ := H
  refine ⟨⟨fun c d hcd => ?_, H2, H3, fun c w hw => ?_, n, m, e1, e2, H4⟩, fun _ _ q => q, fun m2 e => ⟨fun _ _ q => Or.inl q, fun c hc hn => xup_n (fun z => hn a (by rw [z]; exact hr)), m2, e, Nat.le_refl _⟩, rfl, rfl⟩
  rotate_left
  · by_cases z : c = a
    · exact ⟨b, by rw [z]; exact hr⟩
    · exact HT c w ((xup_n z).symm.trans hw)
  have hinj := H3 a b c d hr hcd
  have hbB : nB ≤ b := by
    rcases H1 a b hr with ⟨q1, -⟩ | ⟨-, q2, -⟩
    · omega
    · exact q2
  rcases H1 c d hcd with ⟨q1, q2, q0, q3, q4⟩ | ⟨q1, q2, x2, y2, q3, q4, q5⟩
  · exact Or.inl ⟨q1, q2, q0, (xup_n (by omega)).trans q3, (xup_n (by omega)).trans q4⟩
  · refine Or.inr ⟨q1, q2, ?_⟩
    by_cases z : c = a
    · have z2 : d = b := (hinj.mp z.symm).symm
      rw [z, z2]
      exact ⟨x, y, xup_s, xup_s, he⟩
    · have z2 : d ≠ b := fun w => z (hinj.mpr w.symm).symm
      exact ⟨x2, y2, (xup_n z).trans q3, (xup_n z2).trans q4, q5⟩
theorem HR.new (H : HR nA nB r h h') {n m : Nat} (e1 : h.2.1 = some n) (e2 : h'.2.1 = some m) (c : Nat) {f g : Nat → Option XE} {p p' q q' : Nat} (hp : p' + h.2.2.1 = h'.2.2.1 + p) (hq : q' + h.2.2.2 = h'.2.2.2 + q) (hf : ∀ x, x < nA + n → f x = h.1 x) (hf2 : ∀ x y, nA + n + c ≤ x → f x = some y → h.1 x = some y) (hg : ∀ x, x < nB + m → g x = h'.1 x) (hnew : ∀ j, j < c → ∃ x y, f (nA + n + j) = some x ∧ g (nB + m + j) = some y ∧ ER (fun u v => r u v ∨ ∃ j, j < c ∧ u = nA + n + j ∧ v = nB + m + j) x y) : HR nA nB (fun u v => r u v ∨ ∃ j, j < c ∧ u = nA + n + j ∧ v = nB + m + j) (f, (some (n + c), (p, q))) (g, (some (m + c), (p', q'))) ∧ HX nB r (fun u v => r u v ∨ ∃ j, j < c ∧ u = nA + n + j ∧ v = nB + m + j) h h' (f, (some (n + c), (p, q))) (g, (some (m + c), (p', q'))) := by
  obtain ⟨H1, H2, H3, HT, n0, m0, d1, d2, H4⟩ := H
  cases e1.symm.trans d1
  cases e2.symm.trans d2
  have hm : ∀ a b, r a b → (r a b ∨ ∃ j, j < c ∧ a = nA + n + j ∧ b = nB + m + j) := fun _ _ z => Or.inl z
  refine ⟨⟨fun a b hab => ?_, fun a ha => Or.inl (H2 a ha), fun a b c2 d hab hcd => ?_, fun a w hw => ?_, n + c, m + c, rfl, rfl, fun a b hab => ?_⟩, hm, fun m2 e => ?_, hp, hq⟩
  · rcases hab with hab | ⟨j, hj, rfl, rfl⟩
    · have hb := H4 a b hab
      rcases H1 a b hab with ⟨q1, q2, q0, q3, q4⟩ | ⟨q1, q2, x, y, q3, q4, q5⟩
      · exact Or.inl ⟨q1, q2, q0, (hf a hb.1).trans q3, (hg a (by omega)).trans q4⟩
      · exact Or.inr ⟨q1, q2, x, y, (hf a hb.1).trans q3, (hg b hb.2).trans q4, q5.mono hm⟩
    · obtain ⟨x, y, z1, z2, z3⟩ := hnew j hj
      exact Or.inr ⟨by omega, by omega, x, y, z1, z2, z3⟩
  · rcases hab with hab | ⟨j, hj, rfl, rfl⟩
    · rcases hcd with hcd | ⟨i, hi, rfl, rfl⟩
      · exact H3 _ _ _ _ hab hcd
      · have hb := H4 a b hab
        constructor <;> intro z <;> omega
    · rcases hcd with hcd | ⟨i, hi, rfl, rfl⟩
      · have hb := H4 c2 d hcd
        constructor <;> intro z <;> omega
      · constructor <;> intro z <;> omega
  · by_cases z : a < nA + n
    · obtain ⟨b, hb⟩ := HT a w ((hf a z).symm.trans hw)
      exact ⟨b, Or.inl hb⟩
    · by_cases z2 : a < nA + n + c
      · exact ⟨nB + m + (a - (nA + n)), Or.inr ⟨a - (nA + n), by omega, by omega, rfl⟩⟩
      · obtain ⟨b, hb⟩ := HT a w (hf2 a w (by omega) hw)
        exact ⟨b, Or.inl hb⟩
  · rcases hab with hab | ⟨j, hj, rfl, rfl⟩
    · have hb := H4 a b hab
      omega
    · omega
  · cases e2.symm.trans e
    refine ⟨fun a b hab => ?_, fun c2 hc2 hn => hg c2 hc2, m + c, rfl, by omega⟩
    rcases hab with hab | ⟨j, hj, rfl, rfl⟩
    · exact Or.inl hab
    · exact Or.inr (by omega)
theorem HR.one (H : HR nA nB r h h') {n m : Nat} (e1 : h.2.1 = some n) (e2 : h'.2.1 = some m) {x y : XE} (hxy : ER r x y) (s : Nat) : ∃ r2, HR nA nB r2 (xup h.1 (nA + n) x, (some (n + 1), (h.2.2.1 + 1, h.2.2.2 + s))) (xup h'.1 (nB + m) y, (some (m + 1), (h'.2.2.1 + 1, h'.2.2.2 + s))) ∧ HX nB r r2 h h' (xup h.1 (nA + n) x, (some (n + 1), (h.2.2.1 + 1, h.2.2.2 + s))) (xup h'.1 (nB + m) y, (some (m + 1), (h'.2.2.1 + 1, h'.2.2.2 + s))) ∧ r2 (nA + n) (nB + m) := by
  obtain ⟨z1, z2⟩ := H.new e1 e2 1 (f := xup h.1 (nA + n) x) (g := xup h'.1 (nB + m) y) (p := h.2.2.1 + 1) (p' := h'.2.2.1 + 1) (q := h.2.2.2 + s) (q' := h'.2.2.2 + s) (by omega) (by omega) (fun c hc => xup_n (by omega)) (fun c w hc hw => (xup_n (by omega)).symm.trans hw) (fun c hc => xup_n (by omega)) (fun j hj => by
    have e : j = 0 := by omega
    subst e
    exact ⟨x, y, xup_s, xup_s, hxy.mono (fun _ _ z => Or.inl z)⟩)
  exact ⟨_, z1, z2, Or.inr ⟨0, by omega, rfl, rfl⟩⟩
theorem xset_r (H : HR nA nB r h h') {kk t j : Nat} {x y x2 : vp_A} {v w : Value} (h1 : xset h kk t x j v = some x2) (hx : AR r x y) (hv : VR r v w) : ∃ y2, xset h' kk t y j w = some y2 ∧ AR r x2 y2 := by
  obtain ⟨n, x⟩ := x
  obtain ⟨m, y⟩ := y
  have hm : m = n := hx.1
  subst hm
  unfold xset at h1
  split at h1
  · rename_i f b e1 
    have e1 : x = .inl f := e1
    subst e1
    obtain ⟨-, q⟩ := hx
    cases q; cases hv
    cases h1
    exact ⟨_, rfl, rfl, rfl⟩
  · rename_i f b e1 
    have e1 : x = .inl f := e1
    subst e1
    obtain ⟨-, q⟩ := hx
    cases q; cases hv
    cases h1
    exact ⟨_, rfl, rfl, rfl⟩
  · rename_i f b e1 
    have e1 : x = .inl f := e1
    subst e1
    obtain ⟨-, q⟩ := hx
    cases q; cases hv
    cases h1
    exact ⟨_, rfl, rfl, rfl⟩
  · rename_i f b e1 
    have e1 : x = .inr (.inl f) := e1
    subst e1
    obtain ⟨-, q⟩ := hx
    cases q; cases hv
    cases h1
    exact ⟨_, rfl, rfl, rfl⟩
  · rename_i f b e1 
    have e1 : x = .inr (.inr (.inr (.inl f))) := e1
    subst e1
    obtain ⟨-, q⟩ := hx
    cases q; cases hv
    cases h1
    exact ⟨_, rfl, rfl, rfl⟩
  · rename_i f b e1 
    have e1 : x = .inr (.inr (.inr (.inr f))) := e1
    subst e1
    obtain ⟨-, g, q, q3⟩ := hx
    cases q
    obtain ⟨b2, rfl, hb⟩ := hv
    split at h1
    · rename_i q hq
      obtain ⟨z1, z2, y, z3, gs, rfl, z4⟩ := H.cell hb hq
      obtain ⟨h2, h3⟩ := xbif h1
      cases h3
      refine ⟨(m, .inr (.inr (.inr (.inr (va_up g j (some b2)))))), ?_, rfl, _, rfl, fun i hi => ?_⟩
      · show (match h'.1 b2 with
          | some (.inr q) => bif Nat.beq t (10 + q.1) then some ((m, .inr (.inr (.inr (.inr (va_up g j (some b2)))))) : vp_A) else none
          | _ => none) = _
        rw [z3]
        simp only [h2, cond_true]
      · unfold va_up
        by_cases e : i = j
        · rw [if_pos e, if_pos e]; exact hb
        · rw [if_neg e, if_neg e]; exact q3 i hi
    · cases h1
  · rename_i f b e1 
    have e1 : x = .inr (.inr (.inr (.inr f))) := e1
    subst e1
    obtain ⟨-, g, q, q3⟩ := hx
    cases q
    obtain ⟨b2, rfl, hb⟩ := hv
    split at h1
    · rename_i q hq
      obtain ⟨z1, z2, y, z3, gs, rfl, z4⟩ := H.cell hb hq
      obtain ⟨h2, h3⟩ := xbif h1
      cases h3
      refine ⟨(m, .inr (.inr (.inr (.inr (va_up g j (some b2)))))), ?_, rfl, _, rfl, fun i hi => ?_⟩
      · show (match h'.1 b2 with
          | some (.inl q) => bif Nat.beq q.1 0 then some ((m, .inr (.inr (.inr (.inr (va_up g j (some b2)))))) : vp_A) else none
          | _ => none) = _
        rw [z3]
        simp only [h2, cond_true]
      · unfold va_up
        by_cases e : i = j
        · rw [if_pos e, if_pos e]; exact hb
        · rw [if_neg e, if_neg e]; exact q3 i hi
    · cases h1
  · cases h1
theorem xast_r (H : HR nA nB r h h') {kk : Nat} {st st' : List Value} {q : List Value × XH} (h1 : xast h kk st = some q) (k : LR r st st') : ∃ t2 k2, xast h' kk st' = some (t2, k2) ∧ LR r q.1 t2 ∧ HR nA nB r q.2 k2 ∧ HX nB r r h h' q.2 k2 := by
  obtain ⟨v, i, a, r0, t, x, y, rfl, ha, hk, h0, hlt, hy, rfl⟩ := xast_of h1
  obtain ⟨w1, u1, rfl, g1, kz⟩ := LR_cons k
  clear k
  have k := kz
  clear kz
  obtain ⟨w2, u2, rfl, g2, kz⟩ := LR_cons k
  clear k
  have k := kz
  clear kz
  obtain ⟨w3, u3, rfl, ⟨b, rfl, g3⟩, kz⟩ := LR_cons k
  clear k
  have k := kz
  clear kz
  cases g2
  obtain ⟨z1, z2, y', z3, x', rfl, z4⟩ := H.cell g3 ha
  obtain ⟨y2, e1, e2⟩ := xset_r H hy z4 g1
  obtain ⟨p1, p2⟩ := H.up g3 z1 (x := .inl (t, y)) (y := .inl (t, y2)) ⟨y2, rfl, e2⟩
  refine ⟨u3, _, ?_, k, p1, p2⟩
  have hin : xin i x'.1 = true := by
    rw [z4.size]
    unfold xin
    rw [if_neg h0]
    exact Nat.ble_eq_true_of_le hlt
  unfold xast
  simp only [z3, hk, hin, Bool.and_self, cond_true, e1]
theorem xald_r (H : HR nA nB r h h') (hn : nA ≤ nB) (hro : ∀ a t x, a < nA → ro a = some (t, x) → ro' a = some (t, x) ∧ AR r x x) {kk : Nat} {st st' q : List Value} (h1 : xald ro nA h kk st = some q) (k : LR r st st') : ∃ t2, xald ro' nB h' kk st' = some t2 ∧ LR r q t2 := by
  obtain ⟨i, a, r0, t, x, rfl, ha, hk, h0, hlt, rfl⟩ := xald_of h1
  obtain ⟨w2, u2, rfl, g2, kz⟩ := LR_cons k
  clear k
  have k := kz
  clear kz
  obtain ⟨w3, u3, rfl, ⟨b, rfl, g3⟩, kz⟩ := LR_cons k
  clear k
  have k := kz
  clear kz
  cases g2
  obtain ⟨y, e1, e2⟩ := xarr_rel H hn hro g3 ha
  have hin : xin i y.1 = true := by
    rw [e2.size]
    unfold xin
    rw [if_neg h0]
    exact Nat.ble_eq_true_of_le hlt
  refine ⟨xsl y i.toNatClampNeg :: u3, ?_, xsl_r e2 _ hlt, k⟩
  unfold xald
  simp only [e1, hk, hin, Bool.and_self, cond_true]
theorem xfit_r {t : Nat} {v w : Value} (q : VR r v w) : xfit t w = xfit t v := by
  cases v with
  | ref a =>
    obtain ⟨b, rfl, -⟩ := q
    match t with
    | 0 => rfl
    | 1 => rfl
    | 2 => rfl
    | 3 => rfl
    | t + 4 => rfl
  | _ => cases q; rfl
theorem xheap_r (H : HR nA nB r h h') (hn : nA ≤ nB) (hro : ∀ a t x, a < nA → ro a = some (t, x) → ro' a = some (t, x) ∧ AR r x x) {e : XI} (good : ∀ v ∈ e.2.2.1, ∀ a, v = .ref a → a < nA) {st st' : List Value} {q : List Value × XH} (h1 : xheap ro nA e st h = some q) (k : LR r st st') : ∃ r2 t2 k2, xheap ro' nB e st' h' = some (t2, k2) ∧ LR r2 q.1 t2 ∧ HR nA nB r2 q.2 k2 ∧ HX nB r r2 h h' q.2 k2 := by
  have gh : ∀ {x y : Option (List Value)}, xgh h x = some q → (∀ z, x = some z → ∃ t2, y = some t2 ∧ LR r z t2) → ∃ r2 t2 k2, xgh h' y = some (t2, k2) ∧ LR r2 q.1 t2 ∧ HR nA nB r2 q.2 k2 ∧ HX nB r r2 h h' q.2 k2 := by
    intro x y g hy
    cases x with
    | none => cases g
    | some z =>
      cases g
      obtain ⟨t2, e1, e2⟩ := hy z rfl
      exact ⟨r, t2, h', by rw [e1]; rfl, e2, H, HX.rf H⟩
  have same : ∀ {x : Option (List Value × XH)}, (∃ t2 k2, x = some (t2, k2) ∧ LR r q.1 t2 ∧ HR nA nB r q.2 k2 ∧ HX nB r r h h' q.2 k2) → ∃ r2 t2 k2, x = some (t2, k2) ∧ LR r2 q.1 t2 ∧ HR nA nB r2 q.2 k2 ∧ HX nB r r2 h h' q.2 k2 := fun ⟨t2, k2, z⟩ => ⟨r, t2, k2, z⟩
  obtain ⟨n, m, en, em, hlt⟩ := H.2.2.2.2
  obtain ⟨i, ⟨c1, c2⟩, vs, ts⟩ := e
  cases i
  case getfield j =>
    change (bif Nat.beq (ts.headD 9) 4 then none else xgh h (xget1 c1 c2 h st)) = some q at h1
    cases hq : Nat.beq (ts.headD 9) 4 with
    | true => rw [hq] at h1; cases h1
    | false =>
      rw [hq] at h1
      have own : ∃ r2 t2 k2, xgh h' (xget1 c1 c2 h' st') = some (t2, k2) ∧ LR r2 q.1 t2 ∧ HR nA nB r2 q.2 k2 ∧ HX nB r r2 h h' q.2 k2 := by
        refine gh h1 (fun z hz => ?_)
        unfold xget1 at hz
        split at hz
        · rename_i a r0
          obtain ⟨w, u, rfl, ⟨b, rfl, g3⟩, kz⟩ := LR_cons k
          clear k
          have k := kz
          clear kz
          split at hz
          · rename_i p hp
            obtain ⟨b1, b2⟩ := xbif hz
            obtain ⟨z1, z2, y, z3, gs, rfl, z4⟩ := H.cell g3 hp
            cases hv : p.2[c2]? with
            | none => rw [hv] at b2; cases b2
            | some v =>
              rw [hv] at b2
              cases b2
              obtain ⟨w, e1, e2⟩ := z4.get hv
              refine ⟨w :: u, ?_, e2, k⟩
              unfold xget1
              simp only [z3, b1, cond_true, e1]
          · cases hz
        · cases hz
      show ∃ r2 t2 k2, (bif Nat.beq (ts.headD 9) 4 then none else xgh h' (xget1 c1 c2 h' st')) = some (t2, k2) ∧ LR r2 q.1 t2 ∧ HR nA nB r2 q.2 k2 ∧ HX nB r r2 h h' q.2 k2
      rw [hq]
      exact own
  case putfield j =>
    change xput1 c1 c2 (ts.headD 9) h st = some q at h1
    show ∃ r2 t2 k2, xput1 c1 c2 (ts.headD 9) h' st' = some (t2, k2) ∧ _
    unfold xput1 at h1
    split at h1
    · rename_i v a r0
      obtain ⟨w1, u1, rfl, g1, kz⟩ := LR_cons k
      clear k
      have k := kz
      clear kz
      obtain ⟨w, u, rfl, ⟨b, rfl, g3⟩, kz⟩ := LR_cons k
      clear k
      have k := kz
      clear kz
      split at h1
      · rename_i p hp
        obtain ⟨pc, pf⟩ := p
        obtain ⟨b1, b2⟩ := xbif h1
        obtain ⟨b3, b4⟩ := Bool.and_eq_true_iff.mp b1
        have b3 : pc = c1 := Nat.eq_of_beq_eq_true b3
        subst b3
        cases b2
        obtain ⟨z1, z2, y, z3, gs, rfl, z4⟩ := H.cell g3 hp
        obtain ⟨p1, p2⟩ := H.up g3 z1 (x := .inr (pc, pf.set c2 v)) (y := .inr (pc, gs.set c2 w1)) ⟨_, rfl, z4.set c2 g1⟩
        refine ⟨r, u, _, ?_, k, p1, p2⟩
        have b5 : (xfit (ts.headD 9) w1 && Nat.blt c2 gs.length) = true := by
          rw [xfit_r g1, LR.len z4]
          exact b4
        unfold xput1
        simp only [z3, Nat.beq_refl, b5, Bool.and_self, cond_true]
      · cases h1
    · cases h1
  case getstatic j =>
    refine gh h1 (fun z hz => ?_)
    obtain ⟨v, hv, rfl⟩ := xgs_of hz
    have hv : vs = [v] := hv
    subst hv
    refine ⟨v :: st', rfl, ?_, k⟩
    cases v with
    | ref a => exact ⟨a, rfl, H.2.1 a (good _ List.mem_cons_self a rfl)⟩
    | _ => rfl
  case ldc j =>
    refine gh h1 (fun z hz => ?_)
    obtain ⟨v, hv, rfl⟩ := xgr_of hz
    have hv : vs = [.ref v] := hv
    subst hv
    exact ⟨.ref v :: st', rfl, ⟨v, rfl, H.2.1 v (good _ List.mem_cons_self v rfl)⟩, k⟩
  case iaload => exact gh h1 (fun z hz => xald_r H hn hro hz k)
  case laload => exact gh h1 (fun z hz => xald_r H hn hro hz k)
  case daload => exact gh h1 (fun z hz => xald_r H hn hro hz k)
  case baload => exact gh h1 (fun z hz => xald_r H hn hro hz k)
  case caload => exact gh h1 (fun z hz => xald_r H hn hro hz k)
  case aaload => exact gh h1 (fun z hz => xald_r H hn hro hz k)
  case iastore => exact same (xast_r H h1 k)
  case lastore => exact same (xast_r H h1 k)
  case dastore => exact same (xast_r H h1 k)
  case castore => exact same (xast_r H h1 k)
  case bastore => exact same (xast_r H h1 k)
  case aastore => exact same (xast_r H h1 k)
  case arraylength =>
    refine gh h1 (fun z hz => ?_)
    unfold xln at hz
    split at hz
    · rename_i a r0
      obtain ⟨w, u, rfl, ⟨b, rfl, g3⟩, kz⟩ := LR_cons k
      clear k
      have k := kz
      clear kz
      split at hz
      · rename_i p hp
        cases hz
        obtain ⟨t, x⟩ := p
        obtain ⟨y, e1, e2⟩ := xarr_rel H hn hro g3 hp
        refine ⟨.int (Int32.ofNat y.1) :: u, ?_, by rw [e2.size]; rfl, k⟩
        unfold xln
        simp only [e1]
      · cases hz
    · cases hz
  case new j =>
    change xnew1 nA c1 c2 vs h st = some q at h1
    show ∃ r2 t2 k2, xnew1 nB c1 c2 vs h' st' = some (t2, k2) ∧ _
    unfold xnew1 at h1 ⊢
    rw [en] at h1
    rw [em]
    cases h1
    obtain ⟨r2, p1, p2, p3⟩ := H.one en em (x := .inr (c1, vs)) (y := .inr (c1, vs)) ⟨vs, rfl, LR.self (fun v hv a ha => H.2.1 a (good v hv a ha))⟩ c2
    exact ⟨r2, _, _, rfl, ⟨⟨_, rfl, p3⟩, k.mono p2.1⟩, p1, p2⟩
  case newarray t =>
    change xnewa nA t h st = some q at h1
    show ∃ r2 t2 k2, xnewa nB t h' st' = some (t2, k2) ∧ _
    unfold xnewa at h1
    split at h1
    · rename_i n1 r0 kk hk
      cases en.symm.trans hk
      obtain ⟨w, u, rfl, g, kz⟩ := LR_cons k
      clear k
      have k := kz
      clear kz
      cases g
      obtain ⟨b1, b2⟩ := xbif h1
      split at b2
      · rename_i z hz
        cases b2
        have ez : AR r z z := by
          unfold xzero at hz
          split at hz <;> first | (cases hz; exact ⟨rfl, rfl⟩) | cases hz
        obtain ⟨r2, p1, p2, p3⟩ := H.one en em (x := .inl (xtA t, z)) (y := .inl (xtA t, z)) ⟨z, rfl, ez⟩ n1.toNatClampNeg
        refine ⟨r2, .ref (nB + m) :: u, _, ?_, ⟨⟨_, rfl, p3⟩, k.mono p2.1⟩, p1, p2⟩
        unfold xnewa
        simp only [em, b1, cond_true, hz]
      · cases b2
    · cases h1
  case anewarray j =>
    change (bif Nat.beq (ts.headD 9) 6 then xnewqI nA h st else xnewq nA c1 h st) = some q at h1
    show ∃ r2 t2 k2, (bif Nat.beq (ts.headD 9) 6 then xnewqI nB h' st' else xnewq nB c1 h' st') = some (t2, k2) ∧ _
    cases hq : Nat.beq (ts.headD 9) 6 with
    | true =>
      rw [hq] at h1
      change xnewqI nA h st = some q at h1
      show ∃ r2 t2 k2, xnewqI nB h' st' = some (t2, k2) ∧ _
      unfold xnewqI at h1
      split at h1
      · rename_i n1 r0 kk hk
        cases en.symm.trans hk
        obtain ⟨w, u, rfl, g, kz⟩ := LR_cons k
        clear k
        have k := kz
        clear kz
        cases g
        obtain ⟨b1, b2⟩ := xbif h1
        cases b2
        obtain ⟨r2, p1, p2, p3⟩ := H.one en em (x := .inl (8, (n1.toNatClampNeg, .inr (.inr (.inr (.inr (fun _ => none))))))) (y := .inl (8, (n1.toNatClampNeg, .inr (.inr (.inr (.inr (fun _ => none))))))) ⟨_, rfl, rfl, _, rfl, fun _ _ => trivial⟩ n1.toNatClampNeg
        refine ⟨r2, .ref (nB + m) :: u, _, ?_, ⟨⟨_, rfl, p3⟩, k.mono p2.1⟩, p1, p2⟩
        unfold xnewqI
        simp only [em, b1, cond_true]
      · cases h1
    | false =>
      rw [hq] at h1
      change xnewq nA c1 h st = some q at h1
      show ∃ r2 t2 k2, xnewq nB c1 h' st' = some (t2, k2) ∧ _
      unfold xnewq at h1
      split at h1
      · rename_i n1 r0 kk hk
        cases en.symm.trans hk
        obtain ⟨w, u, rfl, g, kz⟩ := LR_cons k
        clear k
        have k := kz
        clear kz
        cases g
        obtain ⟨b1, b2⟩ := xbif h1
        cases b2
        obtain ⟨r2, p1, p2, p3⟩ := H.one en em (x := .inl (10 + c1, (n1.toNatClampNeg, .inr (.inr (.inr (.inr (fun _ => none))))))) (y := .inl (10 + c1, (n1.toNatClampNeg, .inr (.inr (.inr (.inr (fun _ => none))))))) ⟨_, rfl, rfl, _, rfl, fun _ _ => trivial⟩ n1.toNatClampNeg
        refine ⟨r2, .ref (nB + m) :: u, _, ?_, ⟨⟨_, rfl, p3⟩, k.mono p2.1⟩, p1, p2⟩
        unfold xnewq
        simp only [em, b1, cond_true]
      · cases h1
  case multianewarray j d =>
    change (bif Nat.beq d 2 then xnewm nA h st else none) = some q at h1
    have h2 := xbif h1
    clear h1
    obtain ⟨hd, h1⟩ := h2
    show ∃ r2 t2 k2, (bif Nat.beq d 2 then xnewm nB h' st' else none) = some (t2, k2) ∧ _
    rw [hd]
    show ∃ r2 t2 k2, xnewm nB h' st' = some (t2, k2) ∧ _
    unfold xnewm at h1
    split at h1
    · rename_i n2 n1 r0 kk hk
      cases en.symm.trans hk
      obtain ⟨w, u, rfl, g, kz⟩ := LR_cons k
      clear k
      have k := kz
      clear kz
      cases g
      obtain ⟨w, u, rfl, g, kz⟩ := LR_cons k
      clear k
      have k := kz
      clear kz
      cases g
      obtain ⟨b1, b2⟩ := xbif h1
      cases b2
      obtain ⟨z1, z2⟩ := H.new en em (1 + n1.toNatClampNeg) (f := fun b => if nA + n < b ∧ b ≤ nA + n + n1.toNatClampNeg then some (.inl (1, (n2.toNatClampNeg, .inr (.inl (fun _ => 0))))) else if b = nA + n then some (.inl (9, (n1.toNatClampNeg, .inr (.inr (.inr (.inr (fun i => if i < n1.toNatClampNeg then some (nA + n + 1 + i) else none))))))) else h.1 b) (g := fun b => if nB + m < b ∧ b ≤ nB + m + n1.toNatClampNeg then some (.inl (1, (n2.toNatClampNeg, .inr (.inl (fun _ => 0))))) else if b = nB + m then some (.inl (9, (n1.toNatClampNeg, .inr (.inr (.inr (.inr (fun i => if i < n1.toNatClampNeg then some (nB + m + 1 + i) else none))))))) else h'.1 b) (p := h.2.2.1 + (1 + n1.toNatClampNeg)) (p' := h'.2.2.1 + (1 + n1.toNatClampNeg)) (q := h.2.2.2 + (n1.toNatClampNeg + n1.toNatClampNeg * n2.toNatClampNeg)) (q' := h'.2.2.2 + (n1.toNatClampNeg + n1.toNatClampNeg * n2.toNatClampNeg)) (by omega) (by omega)
        (fun x hx => by (try dsimp only); rw [if_neg (by omega), if_neg (by omega)]) (fun x w hx hw => by (try dsimp only at hw); rw [if_neg (by omega), if_neg (by omega)] at hw; exact hw) (fun x hx => by (try dsimp only); rw [if_neg (by omega), if_neg (by omega)]) (fun j hj => by
          by_cases e0 : j = 0
          · subst e0
            refine ⟨_, _, (if_neg (by omega)).trans (if_pos rfl), (if_neg (by omega)).trans (if_pos rfl), _, rfl, rfl, _, rfl, fun i _ => ?_⟩
            by_cases hi : i < n1.toNatClampNeg
            · (try dsimp only)
              rw [if_pos hi, if_pos hi]
              exact Or.inr ⟨1 + i, by omega, by omega, by omega⟩
            · (try dsimp only)
              rw [if_neg hi, if_neg hi]
              trivial
          · exact ⟨_, _, if_pos (by omega), if_pos (by omega), _, rfl, rfl, rfl⟩)
      rw [show n + 1 + n1.toNatClampNeg = n + (1 + n1.toNatClampNeg) by omega]
      refine ⟨_, .ref (nB + m) :: u, _, ?_, ⟨⟨_, rfl, Or.inr ⟨0, by omega, rfl, rfl⟩⟩, k.mono z2.1⟩, z1, z2⟩
      unfold xnewm
      simp only [em, b1, cond_true]
      rw [show m + 1 + n1.toNatClampNeg = m + (1 + n1.toNatClampNeg) by omega]
    · cases h1
  all_goals exact absurd h1 (by intro z; cases z)
theorem xstr_r (H : HR nA nB r h h') (hA : 22 ≤ nA) (hn : nA ≤ nB) {a b : Nat} (hr : r a b) (h1 : xstr nA h a = true) : xstr nB h' b = true := by
  unfold xstr at h1 ⊢
  rcases Bool.or_eq_true_iff.mp h1 with g | g
  · obtain ⟨g1, g2⟩ := Bool.and_eq_true_iff.mp g
    have e2 := xlt g2
    rcases H.1 a b hr with ⟨-, q, -⟩ | ⟨q, -⟩
    · subst q
      rw [g]
      rfl
    · omega
  · rcases Bool.or_eq_true_iff.mp g with g | g
    · obtain ⟨g1, g2⟩ := Bool.and_eq_true_iff.mp g
      obtain ⟨g2, g3⟩ := Bool.and_eq_true_iff.mp g2
      have e2 := xlt g3
      rcases H.1 a b hr with ⟨-, q, -⟩ | ⟨q, -⟩
      · subst q
        rw [g1, g2, show Nat.blt b nB = true from Nat.ble_eq_true_of_le (by omega), Bool.and_self, Bool.and_self, Bool.true_or, Bool.or_true]
      · omega
    · cases hb : h.1 a with
      | none => rw [hb] at g; cases g
      | some x =>
        rw [hb] at g
        cases x with
        | inl q => cases g
        | inr q =>
          obtain ⟨z1, z2, y, z3, gs, rfl, z4⟩ := H.cell hr hb
          rw [z3]
          have g : Nat.beq q.1 11 = true := g
          show (_ || (_ || Nat.beq q.1 11)) = true
          rw [g, Bool.or_true, Bool.or_true]
theorem xrecv_r (H : HR nA nB r h h') (hA : 22 ≤ nA) (hn : nA ≤ nB) {ci : Nat} {as as' : List Value} (h1 : xrecv nA ci h as = true) (k : LR r as as') : xrecv nB ci h' as' = true := by
  unfold xrecv at h1
  split at h1
  · rename_i a r0
    obtain ⟨w, u, rfl, ⟨b, rfl, g3⟩, kz⟩ := LR_cons k
    clear k
    have k := kz
    clear kz
    show (bif Nat.beq ci 200 then xstr nB h' b else (match h'.1 b with | some (.inr q) => Nat.beq q.1 ci | _ => false)) = true
    cases hc : Nat.beq ci 200 with
    | true => rw [hc] at h1; exact xstr_r H hA hn g3 h1
    | false =>
      rw [hc] at h1
      change (match h.1 a with | some (.inr q) => Nat.beq q.1 ci | _ => false) = true at h1
      cases hb : h.1 a with
      | none => rw [hb] at h1; cases h1
      | some x =>
        rw [hb] at h1
        cases x with
        | inl q => cases h1
        | inr q =>
          obtain ⟨z1, z2, y, z3, gs, rfl, z4⟩ := H.cell g3 hb
          show (match h'.1 b with | some (.inr q) => Nat.beq q.1 ci | _ => false) = true
          rw [z3]
          exact h1
  · cases h1
theorem xcan_r (H : HR nA nB r h h') (hA : 22 ≤ nA) (hn : nA ≤ nB) {kk : Nat} {w : Nat × (Nat × Nat)} {as as' : List Value} (h1 : xcan nA kk w h as = true) (k : LR r as as') : xcan nB kk w h' as' = true := by
  unfold xcan at h1 ⊢
  obtain ⟨g1, g2⟩ := Bool.and_eq_true_iff.mp h1
  rw [k.slots, g1]
  show (true && _) = true
  rw [Bool.true_and]
  split at g2
  · exact xrecv_r H hA hn g2 k
  · rfl
  · unfold xrefh at g2
    split at g2
    · obtain ⟨w, u, rfl, ⟨b, rfl, g3⟩, kz⟩ := LR_cons k
      clear k
      have k := kz
      clear kz
      rfl
    · cases g2
  · cases hb : Nat.ble 100 w.2.2 with
    | true =>
      rw [hb] at g2
      exact xrecv_r H hA hn g2 k
    | false => rfl
  · cases g2
theorem HR.bump (H : HR nA nB r h h') : HR nA nB r (xbump h) (xbump h') ∧ HX nB r r h h' (xbump h) (xbump h') := by
  obtain ⟨H1, H2, H3, HT, n, m, e1, e2, H4⟩ := H
  refine ⟨⟨H1, H2, H3, HT, n + 1, m + 1, by show h.2.1.map _ = _; rw [e1]; rfl, by show h'.2.1.map _ = _; rw [e2]; rfl, fun a b q => by have := H4 a b q; omega⟩, fun _ _ q => q, fun m2 e => ⟨fun _ _ q => Or.inl q, fun _ _ _ => rfl, m + 1, by show h'.2.1.map _ = _; rw [e2]; rfl, by rw [e2] at e; cases e; omega⟩, ?_, ?_⟩
  · show h'.2.2.1 + 1 + h.2.2.1 = h'.2.2.1 + (h.2.2.1 + 1)
    omega
  · show h'.2.2.2 + 6 + h.2.2.2 = h'.2.2.2 + (h.2.2.2 + 6)
    omega
/-- a table whose rows keep to their own: which methods, which references -/
def XGd (T : XT) (P : Nat → Prop) (nA : Nat) : Prop := ∀ mid, P mid → ∀ pc e, T.1 mid pc = some e → (∀ v ∈ e.2.2.1, ∀ a, v = .ref a → a < nA) ∧ ∀ st q, xcall e st = some q → q.1 < 4 → P e.2.1.1
/-- what is told apart, at other addresses -/
def XXr (nA nB : Nat) (X Y : XX) : Prop := ∀ (r : Nat → Nat → Prop) (i : Nat) (as as' : List Value) (h h' : XH) (z : Option Value × XH), HR nA nB r h h' → LR r as as' → X i as h = some z → ∃ z', Y i as' h' = some z' ∧ OVR r z.1 z'.1 ∧ HR nA nB r z.2 z'.2 ∧ HX nB r r h h' z.2 z'.2
theorem xgo_reloc {T : XT} {X Y : XX} {P : Nat → Prop} (hnA : 22 ≤ nA) (hnB : nA ≤ nB) (hT : XGd T P nA) (hX : XXr nA nB X Y) (hro : ∀ (r : Nat → Nat → Prop), (∀ a, a < nA → r a a) → ∀ a t x, a < nA → ro a = some (t, x) → ro' a = some (t, x) ∧ AR r x x) : ∀ (n d mid pc : Nat) (r : Nat → Nat → Prop) (lv lv' : XLv) (st st' : List Value) (h h' : XH) (z : XO × XH), P mid → VLR r lv lv' → LR r st st' → HR nA nB r h h' → xgo T X 12 nA ro n d mid pc lv st h = some z → ∃ r2 z', xgo T Y 12 nB ro' n d mid pc lv' st' h' = some z' ∧ XOR r2 z.1 z'.1 ∧ HR nA nB r2 z.2 z'.2 ∧ HX nB r r2 h h' z.2 z'.2 := by
  intro n
  induction n with
  | zero =>
    intro d mid pc r lv lv' st st' h h' z hP hl hk H hz
    rw [xgo] at hz
    cases hz
  | succ n ih =>
    intro d mid pc r lv lv' st st' h h' z hP hl hk H hz
    obtain ⟨e, he, c⟩ := xgo_cases hz
    obtain ⟨good, hcl⟩ := hT mid hP pc e he
    have hc12 : ∀ a b, r a b → a < 12 → b = a := fun a b q ha => by
      rcases H.1 a b q with ⟨-, q, -⟩ | ⟨q, -⟩
      · exact q
      · omega
    rcases c with ⟨q, h1, k⟩ | ⟨E, h1, rfl, rfl⟩ | ⟨q, ht, h1, k⟩ | ⟨v, h1, rfl⟩ | ⟨q, x, h1, hXx, k⟩ | ⟨q, h1, hq1, k⟩ | ⟨kd, q, d1, x, h1, hkd, hcan, rfl, hr, c⟩
    · obtain ⟨l2, t2, e1, e2, e3⟩ := xflow_r hc12 h1 hl hk
      obtain ⟨r2, z', g1, g2⟩ := ih _ _ _ _ _ _ _ _ _ _ _ hP e2 e3 H k
      exact ⟨r2, z', xgo_f he e1 g1, g2⟩
    · rw [LR_nil hk]
      obtain ⟨p1, p2⟩ := H.bump
      exact ⟨r, _, xgo_t he h1, rfl, p1, p2⟩
    · obtain ⟨r2, t2, k2, e1, e2, e3, e4⟩ := xheap_r H hnB (hro r H.2.1) good h1 hk
      obtain ⟨r3, z', g1, g2, g3, g4⟩ := ih _ _ _ _ _ _ _ _ _ _ _ hP (hl.mono e4.1) e2 e3 k
      exact ⟨r3, z', xgo_h he ht e1 g1, g2, g3, e4.tr g4⟩
    · obtain ⟨w, e1, e2⟩ := xret_r h1 hk
      exact ⟨r, _, xgo_r he e1, e2, H, HX.rf H⟩
    · obtain ⟨q2, e1, e2, e3⟩ := xcall_r h1 hk
      obtain ⟨x2, g1, g2, g3, g4⟩ := hX r _ _ _ _ _ _ H e2 hXx
      have e5 : LR r (x.1.toList ++ q.2) (x2.1.toList ++ q2.2) := by
        refine LR.app ?_ e3
        cases hx1 : x.1 with
        | none =>
          rw [hx1] at g2
          cases hx2 : x2.1 with
          | none => trivial
          | some b => rw [hx2] at g2; exact g2.elim
        | some v =>
          rw [hx1] at g2
          cases hx2 : x2.1 with
          | none => rw [hx2] at g2; exact g2.elim
          | some b => rw [hx2] at g2; exact ⟨g2, trivial⟩
      obtain ⟨r3, z', p1, p2, p3, p4⟩ := ih _ _ _ _ _ _ _ _ _ _ _ hP hl e5 g3 k
      exact ⟨r3, z', xgo_x he e1 g1 p1, p2, p3, g4.tr p4⟩
    · obtain ⟨q2, e1, e2, e3⟩ := xcall_r h1 hk
      have e4 : xref1 q2.1 = true := by
        unfold xref1 at hq1
        split at hq1
        · rename_i a ha
          rw [ha] at e2
          obtain ⟨w, u, e5, ⟨b, rfl, -⟩, e6⟩ := LR_cons e2
          rw [e5, LR_nil e6]
          rfl
        · cases hq1
      obtain ⟨r3, z', p1, p2, p3, p4⟩ := ih _ _ _ _ _ _ _ _ _ _ _ hP hl e3 H k
      exact ⟨r3, z', xgo_o he e1 e4 p1, p2, p3, p4⟩
    · obtain ⟨q2, e1, e2, e3⟩ := xcall_r h1 hk
      have e4 := xcan_r H hnA hnB hcan e2
      obtain ⟨x1, x2⟩ := x
      obtain ⟨r2, ⟨y1, y2⟩, p1, p2, p3, p4⟩ := ih _ _ _ r _ _ _ _ _ _ _ (hcl st _ h1 hkd) (e2.args 0) (show LR r [] [] from trivial) H hr
      rcases c with ⟨v, rfl, kk⟩ | ⟨E, rfl, hk2, hn, rfl⟩ | ⟨E, hp, w, rfl, hk2, hn, hw, kk⟩
      · cases y1 with
        | inr F => exact p2.elim
        | inl v2 =>
          have e5 : LR r2 (v.toList ++ q.2) (v2.toList ++ q2.2) := by
            refine LR.app ?_ (e3.mono p4.1)
            have p2 : OVR r2 v v2 := p2
            cases v with
            | none => cases v2 with
              | none => trivial
              | some b => exact p2.elim
            | some v => cases v2 with
              | none => exact p2.elim
              | some b => exact ⟨p2, trivial⟩
          obtain ⟨r3, z', s1, s2, s3, s4⟩ := ih _ _ _ _ _ _ _ _ _ _ _ hP (hl.mono p4.1) e5 p3 kk
          exact ⟨r3, z', xgo_c he e1 hkd e4 p1 s1, s2, s3, p4.tr s4⟩
      · cases y1 with
        | inl v2 => exact p2.elim
        | inr F =>
          have p2 : F = E := p2
          subst p2
          exact ⟨r2, _, xgo_e he e1 hkd e4 p1 hk2 hn, rfl, p3, p4⟩
      · cases y1 with
        | inl v2 => exact p2.elim
        | inr F =>
          have p2 : F = E := p2
          subst p2
          obtain ⟨r3, z', s1, s2, s3, s4⟩ := ih _ _ _ _ _ _ _ _ _ _ _ hP ((hl.mono p4.1).cl1 _) (show LR r2 [] [] from trivial) p3 kk
          exact ⟨r3, z', xgo_k he e1 hkd e4 p1 hk2 hn hw s1, s2, s3, p4.tr s4⟩
end REL2
