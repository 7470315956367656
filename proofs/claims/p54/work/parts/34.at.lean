/-! objects where the law runs: each is shown by a heap of its own, the one that the contracts speak of -/
/-- the methods of the class and of the JDK -/
def cMth (m : Nat) : Prop := m < 148 ∨ 287 ≤ m
def refsB (l : List (Nat × XI)) (n : Nat) : Bool := l.all (fun q => q.2.2.2.1.all (fun v => match v with
  | .ref a => Nat.blt a n
  | _ => true))
def callsB (l : List (Nat × XI)) : Bool := l.all (fun q => match q.2.1 with
  | .invokevirtual _ | .invokestatic _ | .invokespecial _ | .getfield _ => bif Nat.blt (q.2.2.2.2.headD 9) 4 then Nat.blt q.2.2.1.1 148 || Nat.ble 287 q.2.2.1.1 else true
  | _ => true)
set_option maxRecDepth 100000 in
theorem xcodes_b : (List.range 329).all (fun i => match xnth xcodes i with
  | some l => bif Nat.blt i 148 || Nat.ble 287 i then refsB l 32 && callsB l else refsB l 72
  | none => true) = true := by decide +kernel
theorem xcodes_at {m pc : Nat} {e : XI} (h : xT.1 m pc = some e) : ∃ l, xnth xcodes m = some l ∧ (pc, e) ∈ l ∧ m < 329 := by
  have h : (match xnth xcodes m with | some q => xfind q pc | none => none) = some e := h
  cases hl : xnth xcodes m with
  | none => rw [hl] at h; cases h
  | some l =>
    rw [hl] at h
    have hlt := xnth_lt _ _ _ hl
    rw [xcodes_len] at hlt
    exact ⟨l, rfl, xfind_mem l pc e h, hlt⟩
theorem refsB_of {l : List (Nat × XI)} {n pc : Nat} {e : XI} (h : refsB l n = true) (hm : (pc, e) ∈ l) : ∀ v ∈ e.2.2.1, ∀ a, v = .ref a → a < n := by
  intro v hv a ha
  subst ha
  have h1 := List.all_eq_true.mp h _ hm
  exact xlt (List.all_eq_true.mp h1 _ hv)
theorem callsB_of {l : List (Nat × XI)} {pc : Nat} {e : XI} (h : callsB l = true) (hm : (pc, e) ∈ l) : ∀ st q, xcall e st = some q → q.1 < 4 → cMth e.2.1.1 := by
  intro st q hq h4
  have h1 := List.all_eq_true.mp h _ hm
  obtain ⟨i, ⟨a, b⟩, vs, ts⟩ := e
  have key : ∀ {x : Option (List Value × List Value)}, x.map (fun q => (ts.headD 9, q)) = some q → (bif Nat.blt (ts.headD 9) 4 then Nat.blt a 148 || Nat.ble 287 a else true) = true → cMth a := by
    intro x hx hz
    have e1 : ts.headD 9 = q.1 := by
      cases x with
      | none => cases hx
      | some y => cases hx; rfl
    rw [show Nat.blt (ts.headD 9) 4 = true from Nat.ble_eq_true_of_le (by rw [e1]; exact h4)] at hz
    rcases Bool.or_eq_true_iff.mp hz with g | g
    · exact Or.inl (xlt g)
    · exact Or.inr (Nat.le_of_ble_eq_true g)
  cases i
  case invokevirtual j => exact key hq h1
  case invokestatic j => exact key hq h1
  case invokespecial j => exact key hq h1
  case getfield j =>
    have hq : (bif Nat.beq (ts.headD 9) 4 then (xcut (.getfield j, ((a, b), (vs, ts))) st).map (fun q => (ts.headD 9, q)) else none) = some q := hq
    exact key (xbif hq).2 h1
  all_goals cases hq
theorem xgd_c : XGd xT cMth 32 := by
  intro m hm pc e he
  obtain ⟨l, hl, hmem, hlt⟩ := xcodes_at he
  have h1 := List.all_eq_true.mp xcodes_b m (List.mem_range.mpr hlt)
  rw [hl] at h1
  have hb : (Nat.blt m 148 || Nat.ble 287 m) = true := by
    rcases hm with g | g
    · rw [show Nat.blt m 148 = true from Nat.ble_eq_true_of_le g]; rfl
    · rw [show Nat.ble 287 m = true from Nat.ble_eq_true_of_le g, Bool.or_true]
  have h1 : (bif Nat.blt m 148 || Nat.ble 287 m then refsB l 32 && callsB l else refsB l 72) = true := h1
  rw [hb] at h1
  obtain ⟨g1, g2⟩ := Bool.and_eq_true_iff.mp h1
  exact ⟨refsB_of g1 hmem, callsB_of g2 hmem⟩
theorem xgd_l : XGd xT (fun _ => True) 72 := by
  intro m hm pc e he
  obtain ⟨l, hl, hmem, hlt⟩ := xcodes_at he
  have h1 := List.all_eq_true.mp xcodes_b m (List.mem_range.mpr hlt)
  rw [hl] at h1
  have h1 : (bif Nat.blt m 148 || Nat.ble 287 m then refsB l 32 && callsB l else refsB l 72) = true := h1
  refine ⟨fun v hv a ha => ?_, fun _ _ _ _ => trivial⟩
  cases hb : (Nat.blt m 148 || Nat.ble 287 m) with
  | true =>
    rw [hb] at h1
    exact Nat.lt_of_lt_of_le (refsB_of (n := 32) (Bool.and_eq_true_iff.mp h1).1 hmem v hv a ha) (by decide)
  | false =>
    rw [hb] at h1
    exact refsB_of h1 hmem v hv a ha
section ATX
variable {nA nB : Nat} {r : Nat → Nat → Prop} {h h' : XH}
theorem hr_lo (H : HR nA nB r h h') {a b : Nat} (hr : r a b) (ha : a < nA) : b = a := by
  rcases H.1 a b hr with ⟨-, q, -⟩ | ⟨q, -⟩
  · exact q
  · omega
theorem xXcopy_r (H : HR nA nB r h h') {as as' : List Value} {z : Option Value × XH} (k : LR r as as') (e : xXcopy as h = some z) : ∃ z', xXcopy as' h' = some z' ∧ OVR r z.1 z'.1 ∧ HR nA nB r z.2 z'.2 ∧ HX nB r r h h' z.2 z'.2 := by
  obtain ⟨a, sp, b, dp, n, t, n0, n1, f, g, rfl, ha, hb, h1, h2, h3, h4, rfl⟩ := xXcopy_of e
  obtain ⟨w1, u1, rfl, ⟨a2, rfl, g1⟩, k1⟩ := LR_cons k
  obtain ⟨w2, u2, rfl, g2, k2⟩ := LR_cons k1
  obtain ⟨w3, u3, rfl, ⟨b2, rfl, g3⟩, k3⟩ := LR_cons k2
  obtain ⟨w4, u4, rfl, g4, k4⟩ := LR_cons k3
  obtain ⟨w5, u5, rfl, g5, k5⟩ := LR_cons k4
  cases g2; cases g4; cases g5
  rw [LR_nil k5]
  obtain ⟨p1, p2, y, p3, ⟨m0, yf⟩, rfl, p4⟩ := H.cell g1 ha
  obtain ⟨q1, q2, y, q3, ⟨m1, yg⟩, rfl, q4⟩ := H.cell g3 hb
  obtain ⟨e1, e2⟩ := p4
  obtain ⟨e3, e4⟩ := q4
  cases e1; cases e2; cases e3; cases e4
  obtain ⟨s1, s2⟩ := H.up g3 q1 (x := .inl (t, (n1, .inl (va_cpy f g sp.toNatClampNeg dp.toNatClampNeg n.toNatClampNeg)))) (y := .inl (t, (n1, .inl (va_cpy f g sp.toNatClampNeg dp.toNatClampNeg n.toNatClampNeg)))) ⟨_, rfl, rfl, rfl⟩
  refine ⟨(none, _), ?_, trivial, s1, s2⟩
  unfold xXcopy
  simp only [p3, q3]
  rw [if_pos ⟨⟨trivial, h1⟩, h2, h3, h4⟩]
theorem yCb_big {a : Nat} (h : a < 24 ∨ 72 ≤ a) : yCb a = none := by
  unfold yCb
  rw [if_neg (by omega), if_neg (by omega)]
theorem yXcopy_l {as : List Value} {h : XH} {z : Option Value × XH} (e : xXcopy as h = some z) : yXcopy as h = some z := by
  unfold yXcopy
  rw [e]
theorem xXord_r {lo : Nat} (H : HR nA nB r h h') (hlo : lo + 6 ≤ nA) {as as' : List Value} {z : Option Value × XH} (k : LR r as as') (e : xXord lo as h = some z) : ∃ z', xXord lo as' h' = some z' ∧ OVR r z.1 z'.1 ∧ HR nA nB r z.2 z'.2 ∧ HX nB r r h h' z.2 z'.2 := by
  obtain ⟨a, rfl, h1, h2, rfl⟩ := xXord_of e
  obtain ⟨w1, u1, rfl, ⟨a2, rfl, g1⟩, k1⟩ := LR_cons k
  rw [LR_nil k1, hr_lo H g1 (by omega)]
  exact ⟨_, if_pos ⟨h1, h2⟩, rfl, H, HX.rf H⟩
theorem xXfld_r {lo : Nat} {g : Nat → Value} (H : HR nA nB r h h') (hlo : lo + 6 ≤ nA) (hg : ∀ a, lo ≤ a → a < lo + 6 → VR r (g a) (g a)) {as as' : List Value} {z : Option Value × XH} (k : LR r as as') (e : xXfld lo g as h = some z) : ∃ z', xXfld lo g as' h' = some z' ∧ OVR r z.1 z'.1 ∧ HR nA nB r z.2 z'.2 ∧ HX nB r r h h' z.2 z'.2 := by
  obtain ⟨a, rfl, h1, h2, rfl⟩ := xXfld_of e
  obtain ⟨w1, u1, rfl, ⟨a2, rfl, g1⟩, k1⟩ := LR_cons k
  rw [LR_nil k1, hr_lo H g1 (by omega)]
  exact ⟨_, if_pos ⟨h1, h2⟩, hg a h1 h2, H, HX.rf H⟩
theorem xXcki_r (H : HR nA nB r h h') {as as' : List Value} {z : Option Value × XH} (k : LR r as as') (e : xXcki as h = some z) : ∃ z', xXcki as' h' = some z' ∧ OVR r z.1 z'.1 ∧ HR nA nB r z.2 z'.2 ∧ HX nB r r h h' z.2 z'.2 := by
  obtain ⟨i, n, rfl, h1, h2, rfl⟩ := xXcki_of e
  obtain ⟨w1, u1, rfl, g1, k1⟩ := LR_cons k
  obtain ⟨w2, u2, rfl, g2, k2⟩ := LR_cons k1
  cases g1; cases g2
  rw [LR_nil k2]
  exact ⟨_, if_pos ⟨h1, h2⟩, trivial, H, HX.rf H⟩
theorem xXmath_r {kk : Nat} (H : HR nA nB r h h') {as as' : List Value} {z : Option Value × XH} (k : LR r as as') (e : xXmath kk as h = some z) : ∃ z', xXmath kk as' h' = some z' ∧ OVR r z.1 z'.1 ∧ HR nA nB r z.2 z'.2 ∧ HX nB r r h h' z.2 z'.2 := by
  rcases xXmath_of e with ⟨x, y, rfl, rfl, rfl⟩ | ⟨x, y, rfl, rfl, rfl⟩ | ⟨x, rfl, rfl, rfl⟩
  · obtain ⟨w1, u1, rfl, g1, k1⟩ := LR_cons k
    obtain ⟨w2, u2, rfl, g2, k2⟩ := LR_cons k1
    cases g1; cases g2
    rw [LR_nil k2]
    exact ⟨_, rfl, rfl, H, HX.rf H⟩
  · obtain ⟨w1, u1, rfl, g1, k1⟩ := LR_cons k
    obtain ⟨w2, u2, rfl, g2, k2⟩ := LR_cons k1
    cases g1; cases g2
    rw [LR_nil k2]
    exact ⟨_, rfl, rfl, H, HX.rf H⟩
  · obtain ⟨w1, u1, rfl, g1, k1⟩ := LR_cons k
    cases g1
    rw [LR_nil k1]
    exact ⟨_, rfl, rfl, H, HX.rf H⟩
theorem yXhf_r {ci j : Nat} (H : HR nA nB r h h') {as as' : List Value} {z : Option Value × XH} (k : LR r as as') (e : yXhf ci j as h = some z) : ∃ a b, as = [.ref a] ∧ as' = [.ref b] ∧ r a b ∧ nA ≤ a ∧ nB ≤ b ∧ ∃ z', yXhf ci j as' h' = some z' ∧ OVR r z.1 z'.1 ∧ HR nA nB r z.2 z'.2 ∧ HX nB r r h h' z.2 z'.2 := by
  obtain ⟨a, fs, v, rfl, ha, hv, rfl⟩ := yXhf_of e
  obtain ⟨w1, u1, rfl, ⟨b, rfl, g1⟩, k1⟩ := LR_cons k
  rw [LR_nil k1]
  obtain ⟨p1, p2, y, p3, gs, rfl, p4⟩ := H.cell g1 ha
  obtain ⟨w, e1, e2⟩ := LR.get p4 hv
  refine ⟨a, b, rfl, rfl, g1, p1, p2, (some w, h'), ?_, e2, H, HX.rf H⟩
  unfold yXhf
  simp only [p3, Nat.beq_refl, cond_true, e1]
end ATX
theorem yXval_lo {j : Nat} (hj : j < 26) (h : XH) : yXval [.ref (xsN j)] h = some (some (.ref (xsB j)), h) := by
  have key : ∀ a : Nat, yXval [.ref a] h = (if 16 ≤ a ∧ a < 22 then some (some (Value.ref (a + 8)), h) else if 32 ≤ a ∧ a < 52 then some (some (Value.ref (a + 20)), h) else yXhf 11 0 [.ref a] h) := fun a => rfl
  by_cases h6 : j < 6
  · have e1 : xsN j = 16 + j := if_pos h6
    have e2 : xsB j = 24 + j := if_pos h6
    rw [e1, e2, key, if_pos (by omega), show 16 + j + 8 = 24 + j by omega]
  · have e1 : xsN j = 26 + j := if_neg h6
    have e2 : xsB j = 46 + j := if_neg h6
    rw [e1, e2, key, if_neg (by omega), if_pos (by omega), show 26 + j + 20 = 46 + j by omega]
theorem yXval_hi {b : Nat} (hb : 72 ≤ b) (h : XH) : yXval [.ref b] h = yXhf 11 0 [.ref b] h := by
  have key : ∀ a : Nat, yXval [.ref a] h = (if 16 ≤ a ∧ a < 22 then some (some (Value.ref (a + 8)), h) else if 32 ≤ a ∧ a < 52 then some (some (Value.ref (a + 20)), h) else yXhf 11 0 [.ref a] h) := fun a => rfl
  rw [key, if_neg (by omega), if_neg (by omega)]
theorem yXcod_lo {j : Nat} (hj : j < 26) (h : XH) : yXcod [.ref (xsN j)] h = some (some (.int 0), h) := by
  have key : ∀ a : Nat, yXcod [.ref a] h = (if 16 ≤ a ∧ a < 22 then some (some (Value.int 0), h) else if 32 ≤ a ∧ a < 52 then some (some (Value.int 0), h) else yXhf 11 1 [.ref a] h) := fun a => rfl
  by_cases h6 : j < 6
  · have e1 : xsN j = 16 + j := if_pos h6
    rw [e1, key, if_pos (by omega)]
  · have e1 : xsN j = 26 + j := if_neg h6
    rw [e1, key, if_neg (by omega), if_pos (by omega)]
theorem yXcod_hi {b : Nat} (hb : 72 ≤ b) (h : XH) : yXcod [.ref b] h = yXhf 11 1 [.ref b] h := by
  have key : ∀ a : Nat, yXcod [.ref a] h = (if 16 ≤ a ∧ a < 22 then some (some (Value.int 0), h) else if 32 ≤ a ∧ a < 52 then some (some (Value.int 0), h) else yXhf 11 1 [.ref a] h) := fun a => rfl
  rw [key, if_neg (by omega), if_neg (by omega)]
theorem xxr_c : XXr 32 72 xX yX := by
  intro r i as as' h h' z H k e
  unfold xX at e
  split at e
  · obtain ⟨z', e1, e2⟩ := xXcopy_r H k e
    exact ⟨z', yXcopy_l e1, e2⟩
  · exact xXord_r H (by omega) k e
  · exact xXord_r H (by omega) k e
  · exact xXcki_r H k e
  · exact xXfld_r (g := fun a => .ref (a + 10)) H (by omega) (fun a h1 h2 => ⟨_, rfl, H.2.1 _ (by omega)⟩) k e
  · obtain ⟨a, rfl, h1, h2, rfl⟩ := xXfld_of e
    obtain ⟨w1, u1, rfl, ⟨a2, rfl, g1⟩, k1⟩ := LR_cons k
    rw [LR_nil k1, hr_lo H g1 (by omega)]
    exact ⟨_, if_pos ⟨h1, h2⟩, ⟨_, rfl, H.2.1 _ (by omega)⟩, H, HX.rf H⟩
  · obtain ⟨a, rfl, h1, h2, rfl⟩ := xXfld_of e
    obtain ⟨w1, u1, rfl, ⟨a2, rfl, g1⟩, k1⟩ := LR_cons k
    rw [LR_nil k1, hr_lo H g1 (by omega)]
    exact ⟨_, if_pos ⟨h1, h2⟩, rfl, H, HX.rf H⟩
  · exact xXmath_r H k e
  · exact xXmath_r H k e
  · exact xXmath_r H k e
  · cases e
theorem xxr_l : XXr 72 72 yX yX := by
  intro r i as as' h h' z H k e
  unfold yX at e
  split at e
  · rcases yXcopy_of e with e | e
    · obtain ⟨z', e1, e2⟩ := xXcopy_r H k e
      exact ⟨z', yXcopy_l e1, e2⟩
    · obtain ⟨a, sp, b, dp, n, n1, l, g, rfl, ha, hb, h1, h2, h3, rfl⟩ := yXcpc_of e
      obtain ⟨w1, u1, rfl, ⟨a2, rfl, g1⟩, k1⟩ := LR_cons k
      obtain ⟨w2, u2, rfl, g2, k2⟩ := LR_cons k1
      obtain ⟨w3, u3, rfl, ⟨b2, rfl, g3⟩, k3⟩ := LR_cons k2
      obtain ⟨w4, u4, rfl, g4, k4⟩ := LR_cons k3
      obtain ⟨w5, u5, rfl, g5, k5⟩ := LR_cons k4
      cases g2; cases g4; cases g5
      rw [LR_nil k5]
      have ha72 : a < 72 := by
        rcases Nat.lt_or_ge a 72 with q | q
        · exact q
        · rw [yCb_big (Or.inr q)] at ha; cases ha
      have ea := hr_lo H g1 ha72
      subst ea
      obtain ⟨q1, q2, y, q3, ⟨m1, yg⟩, rfl, q4⟩ := H.cell g3 hb
      obtain ⟨e3, e4⟩ := q4
      cases e3; cases e4
      obtain ⟨s1, s2⟩ := H.up g3 q1 (x := .inl (4, (n1, .inl (va_cpy (fun k => l.getD k 0) g sp.toNatClampNeg dp.toNatClampNeg n.toNatClampNeg)))) (y := .inl (4, (n1, .inl (va_cpy (fun k => l.getD k 0) g sp.toNatClampNeg dp.toNatClampNeg n.toNatClampNeg)))) ⟨_, rfl, rfl, rfl⟩
      have hn1 : h'.1 a2 = none := by
        rcases H.1 a2 a2 g1 with ⟨-, -, -, -, q⟩ | ⟨q, -⟩
        · exact q
        · exact absurd ha72 (Nat.not_lt.mpr q)
      refine ⟨(none, _), ?_, trivial, s1, s2⟩
      show yXcopy _ _ = _
      unfold yXcopy
      have e0 : xXcopy [.ref a2, .int sp, .ref b2, .int dp, .int n] h' = none := by
        unfold xXcopy
        simp only [hn1]
      rw [e0]
      show yXcpc _ _ = _
      unfold yXcpc
      simp only [ha, q3]
      rw [if_pos ⟨trivial, h1, h2, h3⟩]
  · exact xXord_r H (by omega) k e
  · exact xXord_r H (by omega) k e
  · exact xXcki_r H k e
  · exact xXfld_r (g := fun a => .ref (a + 10)) H (by omega) (fun a h1 h2 => ⟨_, rfl, H.2.1 _ (by omega)⟩) k e
  · show ∃ z', yXval as' h' = some z' ∧ _
    rcases yXval_of e with ⟨j, hj, rfl, rfl⟩ | e
    · obtain ⟨w1, u1, rfl, ⟨a2, rfl, g1⟩, k1⟩ := LR_cons k
      have hlt : xsN j < 72 := by unfold xsN; split <;> omega
      have hlt2 : xsB j < 72 := by unfold xsB; split <;> omega
      rw [LR_nil k1, hr_lo H g1 hlt]
      exact ⟨(some (.ref (xsB j)), h'), yXval_lo hj h', ⟨_, rfl, H.2.1 _ hlt2⟩, H, HX.rf H⟩
    · obtain ⟨a, b, rfl, rfl, g1, g2, g3, z', e1, e2⟩ := yXhf_r H k e
      exact ⟨z', (yXval_hi g3 h').trans e1, e2⟩
  · show ∃ z', yXcod as' h' = some z' ∧ _
    rcases yXcod_of e with ⟨j, hj, rfl, rfl⟩ | e
    · obtain ⟨w1, u1, rfl, ⟨a2, rfl, g1⟩, k1⟩ := LR_cons k
      have hlt : xsN j < 72 := by unfold xsN; split <;> omega
      rw [LR_nil k1, hr_lo H g1 hlt]
      exact ⟨(some (.int 0), h'), yXcod_lo hj h', rfl, H, HX.rf H⟩
    · obtain ⟨a, b, rfl, rfl, g1, g2, g3, z', e1, e2⟩ := yXhf_r H k e
      exact ⟨z', (yXcod_hi g3 h').trans e1, e2⟩
  · obtain ⟨a, fs, x, rfl, ha, hv, rfl⟩ := yXhI_of e
    obtain ⟨w1, u1, rfl, ⟨b, rfl, g1⟩, k1⟩ := LR_cons k
    rw [LR_nil k1]
    obtain ⟨p1, p2, y, p3, gs, rfl, p4⟩ := H.cell g1 ha
    obtain ⟨w, e1, e2⟩ := LR.get p4 hv
    cases e2
    refine ⟨(some (.int x), h'), ?_, rfl, H, HX.rf H⟩
    show yXhI 10 3 [Value.ref b] h' = _
    unfold yXhI
    simp only [p3, Nat.beq_refl, cond_true, e1]
  · exact xXmath_r H k e
  · exact xXmath_r H k e
  · exact xXmath_r H k e
  · cases e
theorem AR.ints {r : Nat → Nat → Prop} {n : Nat} {f : Nat → Int32} : AR r (n, .inl f) (n, .inl f) := ⟨rfl, rfl⟩
theorem xro_AR {r : Nat → Nat → Prop} (hr : ∀ a, a < 32 → r a a) {L : Nat} {xs : Nat → Int32} {a t : Nat} {x : vp_A} (h : xro L xs a = some (t, x)) : AR r x x := by
  unfold xro at h
  split at h
  all_goals first
    | (cases h; exact AR.ints)
    | (cases h; exact ⟨rfl, _, rfl, fun j hj => hr _ (by have hj : j < 6 := hj; omega)⟩)
    | cases h
theorem hro_c (S : XSc) : ∀ (r : Nat → Nat → Prop), (∀ a, a < 32 → r a a) → ∀ a t x, a < 32 → xro S.1 S.2 a = some (t, x) → yro S.1 S.2 a = some (t, x) ∧ AR r x x := by
  intro r hr a t x ha h
  refine ⟨?_, xro_AR hr h⟩
  unfold yro
  split <;> first | omega | exact h
theorem hro_l (S : XSc) : ∀ (r : Nat → Nat → Prop), (∀ a, a < 72 → r a a) → ∀ a t x, a < 72 → yro S.1 S.2 a = some (t, x) → yro S.1 S.2 a = some (t, x) ∧ AR r x x := by
  intro r hr a t x ha h
  refine ⟨h, ?_⟩
  unfold yro at h
  split at h
  all_goals first
    | (cases h; exact AR.ints)
    | exact xro_AR (fun a ha => hr a (by omega)) h
