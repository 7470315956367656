/-! soundness: what the deep machine's run says, the machine does -/
theorem xcatch_none {Gw : List Jvm.Cond} {own : String} {pc E : Nat} : ∀ (hs : List (Nat × (Nat × (Nat × Nat)))) (hh : List (Nat × Nat × Nat × Nat)), xokK Gw own hs hh → xcatch hs pc E = none → ∀ z ∈ tableOf hh, covers z pc = false ∨ (z.catchType ≠ 0 ∧ ∃ F, (F < 6 ∧ F ≠ 3) ∧ F ≠ E ∧ Cond.classLink own z.catchType (xEn F) ∈ Gw)
  | [], [], _, _ => fun z hz => nomatch hz
  | [], w :: t, h, _ => h.elim
  | q :: r, [], h, _ => h.elim
  | q :: r, w :: t, h, hc => by
    obtain ⟨k1, k2, k3, k4, k5, k6, k7⟩ := h
    intro z hz
    unfold xcatch at hc
    cases hb : (Nat.ble q.1 pc && (Nat.blt pc q.2.1 && Nat.beq q.2.2.2 E)) with
    | true => rw [hb] at hc; cases hc
    | false =>
      rw [hb] at hc
      rcases List.mem_cons.mp hz with rfl | hz
      · by_cases hf : q.2.2.2 = E
        · refine Or.inl ?_
          show (decide (w.1 ≤ pc) && decide (pc < w.2.1)) = false
          rw [← k1, ← k2]
          cases h1 : decide (q.1 ≤ pc) with
          | false => rfl
          | true =>
            cases h2 : decide (pc < q.2.1) with
            | false => rfl
            | true =>
              have e1 : Nat.ble q.1 pc = true := Nat.ble_eq_true_of_le (of_decide_eq_true h1)
              have e2 : Nat.blt pc q.2.1 = true := Nat.ble_eq_true_of_le (of_decide_eq_true h2)
              have e3 : Nat.beq q.2.2.2 E = true := by rw [hf]; exact Nat.beq_refl E
              rw [e1, e2, e3] at hb
              cases hb
        · exact Or.inr ⟨k4, q.2.2.2, k5, hf, k6⟩
      · exact xcatch_none r t k7 hc z hz
theorem xcatch_some {Gw : List Jvm.Cond} {own : String} {pc E hp : Nat} : ∀ (hs : List (Nat × (Nat × (Nat × Nat)))) (hh : List (Nat × Nat × Nat × Nat)), xokK Gw own hs hh → xcatch hs pc E = some hp → ∃ pre x suf, tableOf hh = pre ++ x :: suf ∧ (∀ z ∈ pre, covers z pc = false ∨ (z.catchType ≠ 0 ∧ ∃ F, (F < 6 ∧ F ≠ 3) ∧ F ≠ E ∧ Cond.classLink own z.catchType (xEn F) ∈ Gw)) ∧ covers x pc = true ∧ x.catchType ≠ 0 ∧ x.handlerPc = hp ∧ Cond.classLink own x.catchType (xEn E) ∈ Gw
  | [], [], _, hc => by cases hc
  | [], w :: t, h, _ => h.elim
  | q :: r, [], h, _ => h.elim
  | q :: r, w :: t, h, hc => by
    have h0 := h
    obtain ⟨k1, k2, k3, k4, k5, k6, k7⟩ := h
    unfold xcatch at hc
    cases hb : (Nat.ble q.1 pc && (Nat.blt pc q.2.1 && Nat.beq q.2.2.2 E)) with
    | true =>
      rw [hb] at hc
      have hc : some q.2.2.1 = some hp := hc
      cases hc
      obtain ⟨b1, b2⟩ := Bool.and_eq_true_iff.mp hb
      obtain ⟨b3, b4⟩ := Bool.and_eq_true_iff.mp b2
      have e4 := Nat.eq_of_beq_eq_true b4
      refine ⟨[], ⟨w.1, w.2.1, w.2.2.1, w.2.2.2⟩, tableOf t, rfl, (fun z hz => nomatch hz), ?_, k4, k3.symm, by rw [← e4]; exact k6⟩
      show (decide (w.1 ≤ pc) && decide (pc < w.2.1)) = true
      rw [← k1, ← k2, decide_eq_true (Nat.le_of_ble_eq_true b1), decide_eq_true (xlt b3)]
      rfl
    | false =>
      rw [hb] at hc
      obtain ⟨pre, x, suf, g1, g2, g3⟩ := xcatch_some r t k7 hc
      have hz1 : xcatch [q] pc E = none := by
        unfold xcatch
        rw [hb]
        rfl
      refine ⟨⟨w.1, w.2.1, w.2.2.1, w.2.2.2⟩ :: pre, x, suf, ?_, ?_, g3⟩
      · show _ :: tableOf t = _
        rw [g1]
        rfl
      · intro z hz
        rcases List.mem_cons.mp hz with rfl | hz
        · exact xcatch_none (Gw := Gw) (own := own) [q] [w] ⟨k1, k2, k3, k4, k5, k6, True.intro⟩ hz1 _ List.mem_cons_self
        · exact g2 z hz
/-- one that is told apart: what it does is proved by itself -/
def xXok (s0 : State) (D : va_G) (cl : List vw_C) (xty : Nat → FieldType) (sa : Nat → Nat) (nr : Nat) (ro : Nat → Option (Nat × vp_A)) (Gw Gn : List Jvm.Cond) (l : Launch) (X : XX) (xokX : String → XI → Prop) : Prop :=
  ∀ (p : Program) (e : Env) (R : Room) (s : State) (m : MethodId) (args : Array Value) (below : List Frame) (meth : Method) (c : Code) (H : Heap) (locs : List Loc) (cells slots : Nat) (Q : State → Prop) (cc : ByteArray) (pc : Nat) (ls : Array Slot) (own mname : String) (c0 k0 : Nat) (h : XH) (i : XI) (as rest : List Value) (r : Option Value × XH),
    xCx s0 D cl xty sa nr ro Gw Gn p s m args meth c cc own mname → xDy s0 D cl xty sa nr s c0 k0 h H locs cells slots → ls.size = c.maxLocals → l.stackTraces = false → 12 ≤ R.frames → 400 ≤ R.locals → X i.2.1.1 as h = some r → xokX own i → as.length = i.2.1.2 → decode cc pc = .ok (i.1, 3) → (rest.map fun v => v.category).sum ≤ 8 → r.2.2.2.1 ≤ c0 + R.cells → r.2.2.2.2 ≤ k0 + R.slots →
    (∀ (H1 : Heap) (locs1 : List Loc) (cells1 slots1 : Nat), xDy s0 D cl xty sa nr s c0 k0 r.2 H1 locs1 cells1 slots1 → W p l e R s m args below meth c H1 locs1 cells1 slots1 Q (F0 m (pc + 3) ls (xL sa (r.1.toList ++ rest)))) →
    W p l e R s m args below meth c H locs cells slots Q (F0 m pc ls (xL sa (as.reverse ++ rest)))
theorem xstr_of {nr : Nat} {h : XH} {b : Nat} (hs : xstr nr h b = true) : ((16 ≤ b ∧ b < 22) ∨ (32 ≤ b ∧ b < 52 ∧ b < nr)) ∨ ∃ q, h.1 b = some (.inr q) ∧ q.1 = 11 := by
  unfold xstr at hs
  rcases Bool.or_eq_true_iff.mp hs with g | g
  · obtain ⟨g1, g2⟩ := Bool.and_eq_true_iff.mp g
    exact Or.inl (Or.inl ⟨Nat.le_of_ble_eq_true g1, xlt g2⟩)
  · rcases Bool.or_eq_true_iff.mp g with g | g
    · obtain ⟨g1, g2⟩ := Bool.and_eq_true_iff.mp g
      obtain ⟨g2, g3⟩ := Bool.and_eq_true_iff.mp g2
      exact Or.inl (Or.inr ⟨Nat.le_of_ble_eq_true g1, xlt g2, xlt g3⟩)
    · cases hb : h.1 b with
      | none => rw [hb] at g; cases g
      | some x =>
        rw [hb] at g
        cases x with
        | inl q => cases g
        | inr q => exact Or.inr ⟨q, rfl, Nat.eq_of_beq_eq_true g⟩
/-- what stays, from the start on -/
def xGl (s0 : State) (D : va_G) (cl : List vw_C) (xty : Nat → FieldType) (sa : Nat → Nat) (nr : Nat) (ro : Nat → Option (Nat × vp_A)) (Gw Gn : List Jvm.Cond) (nE : Nat) (T : XT) (M : XM) (l : Launch) (X : XX) (xokX : String → XI → Prop) : Prop :=
  xAll s0 T M cl Gw Gn sa xokX ∧ (∀ w ∈ Gn, va_Nw w s0) ∧ (∀ ci q, cl[ci]? = some q → u_Kn s0 q.1 q.2.1 q.2.2 (D.1 ci) (D.2 ci)) ∧ xTY cl xty ∧ xSA s0 sa nr ∧ xRO s0 xty sa nr ro ∧ l.stackTraces = false ∧ (∀ a b, a < nE → b < nE → sa a = sa b → a = b) ∧
  vx_Zq Bundle.tN "UNASSIGNED_STACK" Bundle.steD (fun q => s0.heap.size ≤ q) s0 s0.heap ∧ vx_Zq Bundle.tN "SUPPRESSED_SENTINEL" Bundle.listD (fun q => s0.heap.size ≤ q) s0 s0.heap ∧ (∀ i as h r, X i as h = some r → xup2 h r.2) ∧ xXok s0 D cl xty sa nr ro Gw Gn l X xokX ∧
  (∀ b, ((16 ≤ b ∧ b < 22) ∨ (32 ≤ b ∧ b < 52 ∧ b < nr)) → ∃ cell : Cell, s0.heap[sa b]? = some cell ∧ cell.vm.isStatics = false ∧ s0.vm.findClass "java/lang/String" = some cell.cls) ∧ ∃ r : vw_C, cl[11]? = some r ∧ r.1 = "java/lang/String"
section XS6
variable {s0 : State} {D : va_G} {cl : List vw_C} {xty : Nat → FieldType} {sa : Nat → Nat} {nr : Nat} {ro : Nat → Option (Nat × vp_A)} {Gw Gn : List Jvm.Cond} {nE : Nat} {T : XT} {M : XM} {l : Launch} {X : XX} {xokX : String → XI → Prop}
/-- what a run of n steps says of the machine -/
def xSay (s0 : State) (D : va_G) (cl : List vw_C) (xty : Nat → FieldType) (sa : Nat → Nat) (nr : Nat) (ro : Nat → Option (Nat × vp_A)) (Gw Gn : List Jvm.Cond) (nE : Nat) (T : XT) (M : XM) (l : Launch) (X : XX) (n : Nat) : Prop :=
  ∀ (d mid pc : Nat) (lv : XLv) (st : List Value) (h : XH) (z : XO × XH), xgo T X nE nr ro n d mid pc lv st h = some z →
    ∀ (p : Program) (e : Env) (R : Room) (s : State) (m : MethodId) (args : Array Value) (below : List Frame) (meth : Method) (c : Code) (H : Heap) (locs : List Loc) (cells slots : Nat) (Q : State → Prop) (ls : Array Slot) (c0 k0 : Nat),
    xCy s0 D cl xty sa nr ro Gw Gn T M l R d mid p s m args meth c → xDy s0 D cl xty sa nr s c0 k0 h H locs cells slots → lv_has ls (T.2.1 mid).1 (xV sa lv) → z.2.2.2.1 ≤ c0 + R.cells → z.2.2.2.2 ≤ k0 + R.slots →
    (∀ v, z.1 = .inl v → ∀ (pc' : Nat) (e' : XI) (st' : List Value) (ls' : Array Slot) (H' : Heap) (locs' : List Loc) (cells' slots' : Nat), T.1 mid pc' = some e' → xret (T.2.1 mid).2.1 e'.1 st' = some v → xDy s0 D cl xty sa nr s c0 k0 z.2 H' locs' cells' slots' → W p l e R s m args below meth c H' locs' cells' slots' Q (F0 m pc' ls' (xL sa st'))) →
    (∀ k, z.1 = .inr k → ∃ (Qc : Array Value → State → Outcome → State → Prop) (XC : String → State → State → Prop) (mc ms : Nat), Q = vx_MQ below Qc XC args s mc ms (fun q => s0.heap.size ≤ q) ∧ c0 + mc = z.2.2.2.1 ∧ k0 + ms = z.2.2.2.2 ∧ ∀ t : State, s.vm.Alike t.vm → k < 6 → xRep s0 D cl xty sa nr z.2 t.heap → s.heap.size ≤ t.heap.size → XC (xEn k) s t) →
    W p l e R s m args below meth c H locs cells slots Q (F0 m pc ls (xL sa st))
theorem xcon (G : xGl s0 D cl xty sa nr ro Gw Gn nE T M l X xokX) {n : Nat} (S : xSay s0 D cl xty sa nr ro Gw Gn nE T M l X n) {d i : Nat} {as : List Value} {h : XH} {z : XO × XH} (hz : xgo T X nE nr ro n d i 0 (lv_args 0 as) [] h = some z) (hle : (lg_sl as).length ≤ (T.2.1 i).1) (hM : xokM T M i) : xCon s0 D cl xty sa nr Gw T M l d i as h z := by
  obtain ⟨hA, hn, hKc, hTY, hSA, hRO, hst, hE, hU, hN, hXu, hXo, hSt⟩ := G
  obtain ⟨m1, m2, m3, m4, m5⟩ := hM
  have hup := xgo_up hXu _ _ _ _ _ _ _ _ hz
  have body : ∀ (p : Program) (e : Env) (s : State) (m : MethodId) (args : Array Value) (below : List Frame) (meth : Method) (c : Code) (s₁ : State), BodyLoose p l (M.1 i) (headSpec (xcode T M i :: Gw) ({ frames := d + 12, cells := z.2.2.2.1 - h.2.2.1, slots := z.2.2.2.2 - h.2.2.2, locals := 100 * d + 400 } : Room)) (M.2.1 i) (T.2.1 i).1 (M.2.2.1 i) e s m args below meth c s₁ → c.maxLocals = (T.2.1 i).1 → c.exceptionTable.toList = tableOf (M.2.2.2 i) → xPc s0 D cl xty sa nr as h args s →
      W p l e ({ frames := d + 12, cells := z.2.2.2.1 - h.2.2.1, slots := z.2.2.2.2 - h.2.2.2, locals := 100 * d + 400 } : Room) s m args below meth c s.heap [] 0 0 (vx_MQ below (xQc s0 D cl xty sa nr z) (xXC s0 D cl xty sa nr z) args s (z.2.2.2.1 - h.2.2.1) (z.2.2.2.2 - h.2.2.2) (fun q => s0.heap.size ≤ q)) (entryFrame m args (T.2.1 i).1) := by
    intro p e s m args below meth c s₁ B hml htab hP
    obtain ⟨rfl, hW0, hRep⟩ := hP
    rw [lg_entry_eq]
    have hl := lv_entry (xL sa as) (n := (T.2.1 i).1) (by rw [xL_lgs]; exact hle)
    rw [← xV_args] at hl
    have hts0 := atoms_spec (ws := xcode T M i :: Gw) B.pre
    have C0 : xCy s0 D cl xty sa nr ro Gw Gn T M l ({ frames := d + 12, cells := z.2.2.2.1 - h.2.2.1, slots := z.2.2.2.2 - h.2.2.2, locals := 100 * d + 400 } : Room) d i p s m (xL sa as).toArray meth c :=
      ⟨⟨B.exec, B.bytes, findClass_of_methodNamed B.named, (name_of_methodNamed B.named B.method).1, fun w hw => hts0 w (List.mem_cons_of_mem _ hw), hn, hW0, hKc, hTY, hSA, hRO, hRep.2.2.2, hRep.2.2.1⟩, hml, htab, B.notSynchronized, hst, Nat.le_refl _, Nat.le_refl _⟩
    have h1 := hup.1
    have h2 := hup.2
    refine S d i 0 (lv_args 0 as) [] h z hz p e _ s m _ below meth c s.heap [] 0 0 _ _ h.2.2.1 h.2.2.2 C0 ⟨hRep, Nat.le_refl _, fun z hz => (nomatch hz), rfl, rfl⟩ hl (by show z.2.2.2.1 ≤ h.2.2.1 + (z.2.2.2.1 - h.2.2.1); omega) (by show z.2.2.2.2 ≤ h.2.2.2 + (z.2.2.2.2 - h.2.2.2); omega) ?_ ?_
    · intro v hv pc' e' st' ls' H' locs' cells' slots' he' hr' Y'
      have c1 : cells' = z.2.2.2.1 - h.2.2.1 := by have := Y'.2.2.2.1; omega
      have c2 : slots' = z.2.2.2.2 - h.2.2.2 := by have := Y'.2.2.2.2; omega
      rw [← c1, ← c2]
      have hd := (hA.1 i pc' e' he').1
      rw [xret_len hr'] at hd
      exact vx_ret (xret_ok B.exec B.bytes hr' hd B.returns m2 B.notSynchronized (fun t ht hW => ⟨⟨v, hv, rfl, by rw [ht]; exact Y'.1⟩, by rw [ht]; exact Y'.2.1⟩) Y'.2.2.1)
    · intro k hk
      exact ⟨_, _, _, _, rfl, by omega, by omega, fun t ht hk6 hR hs => ⟨⟨k, hk, rfl, hk6, hR⟩, hs⟩⟩
  unfold xCon
  have hcode : xcode T M i = xcode T M i := rfl
  unfold xcode at hcode body ⊢
  cases hh : M.2.2.2 i with
  | nil =>
    rw [hh] at body
    refine vx_ofW (cc := M.2.1 i) (maxL := (T.2.1 i).1) (ret := M.2.2.1 i) m1 rfl ?_
    intro p e s m args below meth c s₁ B hml ht hP
    refine body p e s m args below meth c s₁ B hml ?_ hP
    cases hq : c.exceptionTable.toList with
    | nil => rfl
    | cons x r => exact (ht x (by rw [hq]; exact List.mem_cons_self)).elim
  | cons q r =>
    rw [hh] at body
    refine vx_ofWH (cc := M.2.1 i) (maxL := (T.2.1 i).1) (ret := M.2.2.1 i) (hh := q :: r) m1 rfl ?_
    intro p e s m args below meth c s₁ B hml hP
    refine body p e s m args below meth c s₁ B hml ?_ hP
    exact vx_table (x := M.1 i) B (atoms_spec (ws := Cond.codeWith (M.1 i) (M.2.1 i) (T.2.1 i).1 (M.2.2.1 i) (q :: r) :: Gw) B.pre _ List.mem_cons_self)
/-- a run that returns, as a plain contract -/
theorem xmet {d i : Nat} {as : List Value} {h : XH} {v : Option Value} {h2 : XH} (hC : xCon s0 D cl xty sa nr Gw T M l d i as h (.inl v, h2)) : Met l (M.1 i) (xcode T M i :: Gw) ({ frames := d + 12, cells := h2.2.2.1 - h.2.2.1, slots := h2.2.2.2 - h.2.2.2, locals := 100 * d + 400 } : Room) (xPc s0 D cl xty sa nr as h) (xQc s0 D cl xty sa nr (.inl v, h2)) (h2.2.2.1 - h.2.2.1) (h2.2.2.2 - h.2.2.2) (fun q => s0.heap.size ≤ q) := by
  intro p e ha hc hk s m args below hf happ hP hK
  obtain ⟨n, o, h1, h2, h3, h4⟩ := hC p e ha hc hk s m args below hf happ hP hK
  refine ⟨n, o, h1, h2, h3, ?_⟩
  rcases h4 with h4 | ⟨q, ho, E, ce, L, ⟨⟨k, hk2, -⟩, -⟩, -⟩
  · exact h4
  · cases hk2
theorem xgo_ok (G : xGl s0 D cl xty sa nr ro Gw Gn nE T M l X xokX) : ∀ n, xSay s0 D cl xty sa nr ro Gw Gn nE T M l X n := by
  have G0 := G
  obtain ⟨hA, hn, hKc, hTY, hSA, hRO, hst, hE, hU, hN, hXu, hXo, hSt⟩ := G
  obtain ⟨hA1, hA2, hGood, hCast, hNc⟩ := hA
  intro n
  induction n with
  | zero =>
    intro d mid pc lv st h z hz
    rw [xgo] at hz
    cases hz
  | succ n ih =>
    intro d mid pc lv st h z hz p e R s m args below meth c H locs cells slots Q ls c0 k0 C0 Y hl hrc hrs hret hthr
    have C1 := C0
    obtain ⟨⟨hx, hb, hown, hmn, hts, -, hW0, -, -, -, -, hsz, hbel⟩, hml, htab, hlocks, -, hfr, hlo⟩ := C1
    obtain ⟨i, he, cs⟩ := xgo_cases hz
    obtain ⟨hd, hkF, hkH, hkC, hkT⟩ := hA1 mid pc i he
    have hcut : ∀ {k : Nat} {q : List Value × List Value}, xcall i st = some (k, q) → st = q.1.reverse ++ q.2 ∧ q.1.length = i.2.1.2 ∧ (q.2.map fun v => v.category).sum ≤ 8 ∧ k = i.2.2.2.headD 9 := by
      intro k q hq
      have key : (xcut i st).map (fun q => (i.2.2.2.headD 9, q)) = some (k, q) → st = q.1.reverse ++ q.2 ∧ q.1.length = i.2.1.2 ∧ (q.2.map fun v => v.category).sum ≤ 8 ∧ k = i.2.2.2.headD 9 := by
        intro hq
        unfold xcut at hq
        split at hq
        · rename_i hc
          cases hq
          refine ⟨?_, ?_, hc.2, rfl⟩
          · show st = ((st.take i.2.1.2).reverse).reverse ++ st.drop i.2.1.2
            rw [List.reverse_reverse, List.take_append_drop]
          · show ((st.take i.2.1.2).reverse).length = i.2.1.2
            rw [List.length_reverse, List.length_take]
            omega
        · cases hq
      obtain ⟨j, kk⟩ := i
      cases j
      case getfield j =>
        have hq : (bif Nat.beq (kk.2.2.headD 9) 4 then (xcut (.getfield j, kk) st).map (fun q => (kk.2.2.headD 9, q)) else none) = some (k, q) := hq
        cases hq9 : Nat.beq (kk.2.2.headD 9) 4 with
        | true => rw [hq9] at hq; exact key hq
        | false => rw [hq9] at hq; cases hq
      all_goals first | exact key hq | cases hq
    have hinv : ∀ {q : Nat × (List Value × List Value)}, xcall i st = some q → xle i = 3 := by
      intro q hq
      obtain ⟨j, kk⟩ := i
      cases j <;> first | rfl | cases hq
    rcases cs with ⟨r, h1, k⟩ | ⟨E, h1, rfl, rfl⟩ | ⟨r, ht, h1, k⟩ | ⟨v, h1, rfl⟩ | ⟨q, r, h1, hX1, k⟩ | ⟨q, h1, hq1, k⟩ | ⟨k, q, d1, r, h1, hk, hc, rfl, hr, cs⟩
    · exact xflow_ok hx hb hown hts hE h1 hkF hd hl (fun ls hl => ih _ _ _ _ _ _ _ k p e R s m args below meth c H locs cells slots Q ls c0 k0 C0 Y hl hrc hrs hret hthr)
    · obtain ⟨hE6, ik, is, ic, sb, text, names, Y0, ix, bts, t1, t2, t3, t4, t5, ⟨tY, tS⟩, t6, t7, t8, t9, t10⟩ := hkT E h1
      obtain ⟨Qc, XC, mc, ms, rfl, e1, e2, hXC⟩ := hthr E rfl
      have e1 : c0 + mc = h.2.2.1 + 1 := e1
      have e2 : k0 + ms = h.2.2.2 + 6 := e2
      have hrc : h.2.2.1 + 1 ≤ c0 + R.cells := hrc
      have hrs : h.2.2.2 + 6 ≤ k0 + R.slots := hrs
      have y1 := Y.2.2.2.1
      have y2 := Y.2.2.2.2
      have hw : ∀ w ∈ Cond.classLink (M.1 mid).cls ik (xEn E) :: Cond.initialized (xEn E) :: (xqt (M.1 mid).cls ic (xEn E) Y0 ix bts names).filter vx_no, w.before args s = true := t10 s args hW0
      have hU2 : vx_Zq Bundle.tN "UNASSIGNED_STACK" Bundle.steD (fun q => s0.heap.size ≤ q) s s.heap := vx_Zq.moved hW0.alike (hU.kept (fun q _ h2 => hbel q (Nat.not_le.mp h2)))
      have hN2 : vx_Zq Bundle.tN "SUPPRESSED_SENTINEL" Bundle.listD (fun q => s0.heap.size ≤ q) s s.heap := vx_Zq.moved hW0.alike (hN.kept (fun q _ h2 => hbel q (Nat.not_le.mp h2)))
      have htab0 : c.exceptionTable.toList = [] := by rw [htab, t1]; rfl
      have hxx : ∀ t : State, s.vm.Alike t.vm → t.heap.size = H.size + 1 → (∀ q : Nat, q < H.size → t.heap[q]? = H[q]?) → XC (xEn E) s t := by
        intro t ha hs2 hk2
        refine hXC t ha hE6 ⟨fun a x hax => ?_, fun n hn => ?_, fun q hq => ?_, ?_⟩ ?_
        · obtain ⟨g1, g2⟩ := Y.1.1 a x hax
          exact ⟨g1, g2.kept (hk2 _ g2.lt)⟩
        · have hn : h.2.1.map (fun n => n + 1) = some n := hn
          cases hq9 : h.2.1 with
          | none => rw [hq9] at hn; cases hn
          | some n9 =>
            rw [hq9] at hn
            have e9 : n9 + 1 = n := Option.some.inj hn
            have := Y.1.2.1 n9 hq9
            omega
        · rw [hk2 q (Nat.lt_of_lt_of_le hq Y.1.2.2.2)]
          exact Y.1.2.2.1 q hq
        · rw [hs2]
          have := Y.1.2.2.2
          omega
        · rw [hs2]
          have := Y.2.1
          omega
      have hout : ∀ q, ∀ x ∈ c.exceptionTable.toList, covers x q = false := fun q x hx => by rw [htab0] at hx; cases hx
      rcases t4 with ⟨u4, u6, u9⟩ | ⟨u4, u6, u9⟩
      · exact xthrowS (rest := []) hx hb (by exact hst) hown t5 tY tS t6 (hw _ List.mem_cons_self) (hw _ (List.mem_cons_of_mem _ List.mem_cons_self)) (vk_R.warm hW0 t8) (fun w hw2 => hw w (List.mem_cons_of_mem _ (List.mem_cons_of_mem _ hw2))) t9 hU2 hN2 (Y.S hbel) (hl.1.trans hml.symm) t2 t3 u4 u6 u9 (hout _) (by omega) (by show 0 + (13 * (names.length + 2) + 43) ≤ R.locals; omega) (by omega) (by omega) hlocks hxx Y.2.2.1 (by omega) (by omega)
      · exact xthrowSW (rest := []) hx hb (by exact hst) hown t5 tY tS t6 (hw _ List.mem_cons_self) (hw _ (List.mem_cons_of_mem _ List.mem_cons_self)) (vk_R.warm hW0 t8) (fun w hw2 => hw w (List.mem_cons_of_mem _ (List.mem_cons_of_mem _ hw2))) t9 hU2 hN2 (Y.S hbel) (hl.1.trans hml.symm) t2 t3 u4 u6 u9 (hout _) (by omega) (by show 0 + (13 * (names.length + 2) + 43) ≤ R.locals; omega) (by omega) (by omega) hlocks hxx Y.2.2.1 (by omega) (by omega)
    · have hup := xgo_up hXu _ _ _ _ _ _ _ _ k
      exact xheap_ok C0.1 Y h1 (hkH ht) hd (Nat.le_trans hup.1 hrc) (Nat.le_trans hup.2 hrs) (fun H1 locs1 cells1 slots1 Y1 => ih _ _ _ _ _ _ _ k p e R s m args below meth c H1 locs1 cells1 slots1 Q ls c0 k0 C0 Y1 hl hrc hrs hret hthr)
    · exact hret v rfl pc i st ls H locs cells slots he h1 Y
    · have hup := xgo_up hXu _ _ _ _ _ _ _ _ k
      obtain ⟨a1, a2, a3, a4⟩ := hcut h1
      have hkX : xokX (M.1 mid).cls i := by
        have := (hkC _ _ h1).1
        unfold xokC at this
        rw [← a4] at this
        exact this
      rw [hinv h1] at hd
      rw [a1]
      exact hXo p e R s m args below meth c H locs cells slots Q _ pc ls _ _ c0 k0 h i q.1 q.2 r C0.1 Y (hl.1.trans hml.symm) hst (by omega) (by omega) hX1 hkX a2 hd a3 (Nat.le_trans hup.1 hrc) (Nat.le_trans hup.2 hrs) (fun H1 locs1 cells1 slots1 Y1 => ih _ _ _ _ _ _ _ k p e R s m args below meth c H1 locs1 cells1 slots1 Q ls c0 k0 C0 Y1 hl hrc hrs hret hthr)
    · obtain ⟨a1, a2, a3, a4⟩ := hcut h1
      have hkO := (hkC _ _ h1).1
      unfold xokC at hkO
      rw [← a4] at hkO
      obtain ⟨j, w0, w1, w2, w3, w4⟩ := hkO
      rw [hinv h1, w0] at hd
      obtain ⟨as, rest⟩ := q
      change xref1 as = true at hq1
      unfold xref1 at hq1
      split at hq1
      · rename_i b
        rw [a1]
        have a3 : (rest.map fun v => v.category).sum ≤ 8 := a3
        refine W.objInit (a := sa b) (rest := xL sa rest) hx hb hown (hts _ w1) (hts _ w2) (hts _ w3) rfl (hl.1.trans hml.symm) rfl hd (by omega) ?_ (ih _ _ _ _ _ _ _ k p e R s m args below meth c H locs cells slots Q ls c0 k0 C0 Y hl hrc hrs hret hthr)
        have := lv_room (m := m) (pc := pc) (ls := ls) (rest := []) (st := xL sa rest) (by rw [xL_cats]; exact a3)
        have h8 : 2 * (F0 m pc ls []).monitorRoom + ((xL sa rest).map fun v => v.category).sum ≤ 8 := this
        show 2 * (F0 m pc ls (xL sa ([Value.ref b].reverse ++ rest))).monitorRoom + ((xL sa rest).map fun v => v.category).sum + 12 ≤ R.locals
        have h9 : (F0 m pc ls (xL sa ([Value.ref b].reverse ++ rest))).monitorRoom = (F0 m pc ls []).monitorRoom := rfl
        rw [h9]
        omega
      · cases hq1
    · obtain ⟨a1, a2, a3, a4⟩ := hcut h1
      obtain ⟨hkO, hkM0⟩ := hkC _ _ h1
      have hkM2 : xokM T M i.2.1.1 := hkM0 hk
      clear hkM0
      unfold xokC at hkO
      rw [← a4] at hkO
      rw [hinv h1] at hd
      obtain ⟨as, rest⟩ := q
      obtain ⟨hc1, hc2⟩ := Bool.and_eq_true_iff.mp hc
      have a1 : st = as.reverse ++ rest := a1
      have a3 : (rest.map fun v => v.category).sum ≤ 8 := a3
      have hcon := xcon G0 ih hr (Nat.le_of_ble_eq_true hc1) hkM2
      obtain ⟨m1, m2, m3, m4, m5⟩ := hkM2
      have hru := xgo_up hXu _ _ _ _ _ _ _ _ hr
      have y1 := Y.2.2.2.1
      have y2 := Y.2.2.2.2
      have r1 := hru.1
      have r2 := hru.2
      have hzu : r.2.2.2.1 ≤ z.2.2.2.1 ∧ r.2.2.2.2 ≤ z.2.2.2.2 := by
        rcases cs with ⟨v, hv, kk⟩ | ⟨E, hE, hk2, hn, rfl⟩ | ⟨E, hp, w, hE, hk2, hn, hw, kk⟩
        · exact xgo_up hXu _ _ _ _ _ _ _ _ kk
        · exact ⟨Nat.le_refl _, Nat.le_refl _⟩
        · exact xgo_up hXu _ _ _ _ _ _ _ _ kk
      have hf : cells + (r.2.2.2.1 - h.2.2.1) ≤ R.cells ∧ slots + (r.2.2.2.2 - h.2.2.2) ≤ R.slots := by
        obtain ⟨z1, z2⟩ := hzu
        omega
      have hR : d1 + 12 + 1 ≤ R.frames ∧ 8 + ((T.2.1 i.2.1.1).1 + 11) + (100 * d1 + 400) ≤ R.locals := by omega
      have CF : CallFix p m c (M.2.1 mid) (T.2.1 mid).1 s args Gw (M.1 mid).cls := ⟨hx, hb, hml, hown, hts⟩
      have hroom : 2 * (F0 m pc ls (xL sa st)).monitorRoom + ((xL sa rest).map fun v => v.category).sum ≤ 8 := lv_room (by rw [xL_cats]; exact a3)
      have hgood : xcode T M i.2.1.1 ∈ Gw → GoodIn Gw (xcode T M i.2.1.1 :: Gw) := fun hw w hw2 => by
        rcases List.mem_cons.mp hw2 with rfl | hw2
        · exact ⟨hw, good_of_word (hGood _ hw)⟩
        · exact ⟨hw2, good_of_word (hGood _ hw2)⟩
      have hpre : ∀ U : State, U.heap = H → s.WarmedH U.vm → xPc s0 D cl xty sa nr as h (xL sa as).toArray U := fun U hU hW => ⟨rfl, State.WarmedH.trans hW0 hW, by rw [hU]; exact Y.1⟩
      have hst2 : (F0 m pc ls (xL sa st)).stack = (xL sa as).reverse ++ xL sa rest := by
        show xL sa st = _
        rw [a1, xL_app, xL_rev]
      have hlen : (xL sa as).length = i.2.1.2 := by unfold xL; rw [List.length_map]; exact a2
      -- going on behind a call that has returned
      have retn : ∀ {v : Option Value} {h2 : XH}, r = (.inl v, h2) → xgo T X nE nr ro n (d1 + 1) mid (pc + 3) lv (v.toList ++ rest) h2 = some z → va_Run p l e R s m args below meth c H locs cells slots (h2.2.2.1 - h.2.2.1) (h2.2.2.2 - h.2.2.2) (F0 m pc ls (xL sa st)) (xL sa rest) (xQc s0 D cl xty sa nr (.inl v, h2) (xL sa as).toArray) (fun q => s0.heap.size ≤ q) → W p l e R s m args below meth c H locs cells slots Q (F0 m pc ls (xL sa st)) := by
        intro v h2 hr0 kk hrun Tt hT Xt
        obtain ⟨v', st₀, t, T', L, h0, X', hL, e1, e2, ⟨⟨v2, hv2, hoc, hrep⟩, hsz2⟩, st3⟩ := hrun Tt hT Xt
        have hv3 : v = v2 := Sum.inl.inj hv2
        subst hv3
        have hv4 : v' = v.map (xs sa) := Outcome.returned.inj hoc
        have hr1 : h.2.2.1 ≤ h2.2.2.1 := by have := r1; rw [hr0] at this; exact this
        have hr2 : h.2.2.2 ≤ h2.2.2.2 := by have := r2; rw [hr0] at this; exact this
        have Y2 : xDy s0 D cl xty sa nr s c0 k0 h2 T'.heap (locs ++ L) (cells + (h2.2.2.1 - h.2.2.1)) (slots + (h2.2.2.2 - h.2.2.2)) := by
          refine ⟨by rw [e1]; exact hrep, by rw [e1]; have := Y.2.1; rw [h0] at hsz2; omega, fun z hz => ?_, by omega, by omega⟩
          rcases List.mem_append.mp hz with q | q
          · exact Y.2.2.1 z q
          · exact hL z q
        obtain ⟨t2, b1, b2⟩ := ih _ _ _ _ _ _ _ kk p e R s m args below meth c T'.heap (locs ++ L) _ _ Q ls c0 k0 C0 Y2 hl hrc hrs hret hthr T' rfl X'
        refine ⟨t2, st3 t2 ?_, b2⟩
        have es : v'.toList ++ xL sa rest = xL sa (v.toList ++ rest) := by
          rw [hv4]
          cases v <;> rfl
        show Steps p.tables e below (T'.setTop { method := m, pc := pc + 3, locals := ls, stack := v'.toList ++ xL sa rest, locked := none }) t2
        rw [es]
        exact b1
      -- going on behind a call that has thrown
      have thrn : ∀ {E : Nat} {h2 : XH}, r = (.inr E, h2) → ((xcatch (T.2.2 mid) pc E = none ∧ z = (.inr E, h2)) ∨ (∃ hp w, xcatch (T.2.2 mid) pc E = some hp ∧ xkeep (T.1 mid hp) hp (T.2.1 mid).1 = some w ∧ xgo T X nE nr ro n (d1 + 1) mid w.1 (xcl1 w.2 lv) [] h2 = some z)) → vx_Run p l e R s m args below meth c H locs cells slots (h2.2.2.1 - h.2.2.1) (h2.2.2.2 - h.2.2.2) (F0 m pc ls (xL sa st)) (xL sa rest) (xQc s0 D cl xty sa nr (.inr E, h2) (xL sa as).toArray) (xXC s0 D cl xty sa nr (.inr E, h2)) (fun q => s0.heap.size ≤ q) → W p l e R s m args below meth c H locs cells slots Q (F0 m pc ls (xL sa st)) := by
        intro E h2 hr0 kk hrun Tt hT Xt
        have hr1 : h.2.2.1 ≤ h2.2.2.1 := by have := r1; rw [hr0] at this; exact this
        have hr2 : h.2.2.2 ≤ h2.2.2.2 := by have := r2; rw [hr0] at this; exact this
        rcases hrun Tt hT Xt with ⟨v', st₀, t, T', L, h0, X', hL, e1, e2, ⟨⟨v2, hv2, -⟩, -⟩, st3⟩ | ⟨q, st₀, t, T', L, En, ce, h0, X', hL, e1, e2, ⟨⟨k2, hk2, rfl, hk6, hrep⟩, hsz2⟩, hce, hcv, hcl, st3⟩
        · cases hv2
        · have hv3 : E = k2 := Sum.inr.inj hk2
          subst hv3
          have Y2 : xDy s0 D cl xty sa nr s c0 k0 h2 T'.heap (locs ++ L) (cells + (h2.2.2.1 - h.2.2.1)) (slots + (h2.2.2.2 - h.2.2.2)) := by
            refine ⟨by rw [e1]; exact hrep, by rw [e1]; have := Y.2.1; rw [h0] at hsz2; omega, fun z hz => ?_, by omega, by omega⟩
            rcases List.mem_append.mp hz with q | q
            · exact Y.2.2.1 z q
            · exact hL z q
          have hpassOf : ∀ zz : ExceptionTableEntry, (covers zz pc = false ∨ (zz.catchType ≠ 0 ∧ ∃ F, (F < 6 ∧ F ≠ 3) ∧ F ≠ E ∧ Cond.classLink (M.1 mid).cls zz.catchType (xEn F) ∈ Gw)) → covers zz pc = false ∨ (zz.catchType ≠ 0 ∧ ∃ nm : String, (Cond.classLink (M.1 mid).cls zz.catchType nm).before args s = true ∧ va_Nc (xEn E) nm s) := by
            intro zz hzz
            rcases hzz with q | ⟨q1, F, q2, q3, q4⟩
            · exact Or.inl q
            · exact Or.inr ⟨q1, _, hts _ q4, va_Nc.moved hW0.alike (hNc E F hk6 q2.1 q2.2 (Ne.symm q3))⟩
          have hce2 : T'.heap[q]? = some ce := by rw [e1]; exact hce
          rcases kk with ⟨hn1, rfl⟩ | ⟨hp, w, hn1, hw, kk⟩
          · obtain ⟨Qc, XC, mc, ms, rfl, f1, f2, hXC⟩ := hthr E rfl
            have f1 : c0 + mc = h2.2.2.1 := f1
            have f2 : k0 + ms = h2.2.2.2 := f2
            have hall := xcatch_none (pc := pc) (E := E) _ _ (hA2 mid) hn1
            obtain ⟨t2, b1, b2⟩ := vx_outP (own := (M.1 mid).cls) (E := xEn E) (pc := pc) (ls := ls) (rest := xL sa rest) (H := T'.heap) (locs := locs ++ L) (Qc := Qc) (XC := XC) (mc := mc) (ms := ms) (free := fun q => s0.heap.size ≤ q) hown hlocks (fun zz hzz => hpassOf zz (hall zz (by rw [← htab]; exact hzz))) hce2 hcv hcl (fun t4 ht4 ha4 => hXC t4 ha4 hk6 (by rw [ht4]; exact Y2.1) (by rw [ht4]; exact Y2.2.1)) Y2.2.2.1 (by omega) (by omega) T' rfl X'
            exact ⟨t2, st3.trans b1, b2⟩
          · obtain ⟨pre, x, suf, g1, g2, g3, g4, g5, g6⟩ := xcatch_some (pc := pc) (E := E) _ _ (hA2 mid) hn1
            have hcast : (Cond.castable (xEn E) (xEn E)).before args s = true := va_Nw.use rfl (va_Nw.warmC hW0 (hCast E hk6))
            have cont : W p l e R s m args below meth c T'.heap (locs ++ L) (cells + (h2.2.2.1 - h.2.2.1)) (slots + (h2.2.2.2 - h.2.2.2)) Q (F0 m x.handlerPc ls [.ref q]) := by
              rw [g5]
              cases hhp : T.1 mid hp with
              | none => rw [hhp] at hw; cases hw
              | some e9 =>
                rw [hhp] at hw
                have hd9 := (hA1 mid hp e9 hhp).1
                have hlsub : ∀ {ls2 : Array Slot} {kx : Nat}, lv_has ls2 (T.2.1 mid).1 ((kx, .ref q) :: (xV sa lv).filter (fun q => !(q.1 == kx) && !(q.1 + 1 == kx && q.2.category == 2))) → lv_has ls2 (T.2.1 mid).1 (xV sa (xcl1 kx lv)) := fun {ls2 kx} hh => ⟨hh.1, hh.2.1, fun y hy => hh.2.2 y (List.mem_cons_of_mem _ (by rw [xV_cl1]; exact hy))⟩
                obtain ⟨j9, k9⟩ := e9
                cases j9
                case astore_n kx =>
                  have hw : (bif Nat.blt kx (T.2.1 mid).1 then some (hp + 1, (kx : Nat)) else none) = some w := hw
                  obtain ⟨b1, b2⟩ := xbif hw
                  cases b2
                  exact lv_astore_n hx hb hd9 rfl hl (xlt b1) rfl (fun ls2 hl2 => ih _ _ _ _ _ _ _ kk p e R s m args below meth c T'.heap (locs ++ L) _ _ Q ls2 c0 k0 C0 Y2 (hlsub hl2) hrc hrs hret hthr)
                case astore kx =>
                  have hw : (bif Nat.blt kx (T.2.1 mid).1 then some (hp + 2, kx) else none) = some w := hw
                  obtain ⟨b1, b2⟩ := xbif hw
                  cases b2
                  exact lv_astore hx hb hd9 hl (xlt b1) rfl (fun ls2 hl2 => ih _ _ _ _ _ _ _ kk p e R s m args below meth c T'.heap (locs ++ L) _ _ Q ls2 c0 k0 C0 Y2 (hlsub hl2) hrc hrs hret hthr)
                all_goals cases hw
            obtain ⟨t2, b1, b2⟩ := vx_catch (own := (M.1 mid).cls) (E := xEn E) (name := xEn E) (pc := pc) (ls := ls) (rest := xL sa rest) hown pre x suf (by rw [htab]; exact g1) (fun zz hzz => hpassOf zz (g2 zz hzz)) g3 g4 (hts _ g6) hcast hce2 hcv hcl cont T' rfl X'
            exact ⟨t2, st3.trans b1, b2⟩
      have hcodeE : M.2.2.2 i.2.1.1 = [] → xcode T M i.2.1.1 :: Gw = Cond.code (M.1 i.2.1.1) (M.2.1 i.2.1.1) (T.2.1 i.2.1.1).1 (M.2.2.1 i.2.1.1) :: Gw := fun q => by unfold xcode; rw [q]
      obtain ⟨ro1, h2⟩ := r
      have thrn2 : ∀ {E : Nat}, ro1 = .inr E → ((xcatch (T.2.2 mid) pc E = none ∧ z = (.inr E, h2)) ∨ (∃ hp w, xcatch (T.2.2 mid) pc E = some hp ∧ xkeep (T.1 mid hp) hp (T.2.1 mid).1 = some w ∧ xgo T X nE nr ro n (d1 + 1) mid w.1 (xcl1 w.2 lv) [] h2 = some z)) ∧ k < 2 := by
        intro E hE
        subst hE
        rcases cs with ⟨v, hv, kk⟩ | ⟨E2, hE2, hk2, hn1, hz1⟩ | ⟨E2, hp, w, hE2, hk2, hn1, hw, kk⟩
        · cases hv
        · cases hE2; exact ⟨Or.inl ⟨hn1, hz1⟩, hk2⟩
        · cases hE2; exact ⟨Or.inr ⟨hp, w, hn1, hw, kk⟩, hk2⟩
      match k, hk, hc2, hkO with
      | 0, _, hc2, hkO =>
        obtain ⟨j, w0, w1, w2, w4, w5, w6, ⟨nn, w7, w8⟩, CC, w9, w3⟩ := hkO
        rw [w0] at hd
        have hcw : CallW R s args (M.1 mid).cls CC j (M.1 i.2.1.1) (M.2.1 i.2.1.1) (T.2.1 i.2.1.1).1 (M.2.2.1 i.2.1.1) (xcode T M i.2.1.1 :: Gw) ({ frames := d1 + 12, cells := h2.2.2.1 - h.2.2.1, slots := h2.2.2.2 - h.2.2.2, locals := 100 * d1 + 400 } : Room) (h2.2.2.1 - h.2.2.1) (h2.2.2.2 - h.2.2.2) nn :=
          ⟨callB_of nn hts (hgood w6) (hcodeE w5) rfl rfl (hts _ w4) (hts _ w1) ⟨m3, m4, w7⟩ hR, hts _ w2, hts _ w3⟩
        cases as with
        | nil => exact absurd hc2 (by intro q; cases q)
        | cons v0 as1 =>
          have hc2 : xrecv nr (T.2.1 i.2.1.1).2.2 h (v0 :: as1) = true := hc2
          cases v0 with
          | ref b =>
            have hcell : ∃ cellB : Cell, H[sa b]? = some cellB ∧ cellB.vm.isStatics = false ∧ s.vm.findClass CC = some cellB.cls := by
              have hc2 : (bif Nat.beq (T.2.1 i.2.1.1).2.2 200 then xstr nr h b else (match h.1 b with | some (.inr q) => Nat.beq q.1 (T.2.1 i.2.1.1).2.2 | _ => false)) = true := hc2
              rcases w9 with ⟨w9, w10⟩ | ⟨w9, rr, w10, w11⟩
              · rw [w9, show Nat.beq 200 200 = true from rfl] at hc2
                have hc2 : xstr nr h b = true := hc2
                rcases xstr_of hc2 with g1 | ⟨q, hb2, e9⟩
                · obtain ⟨cell, c1, c2, c3⟩ := hSt.1 b g1
                  refine ⟨cell, ?_, c2, ?_⟩
                  · rw [Y.1.2.2.1 _ (Array.getElem?_eq_some_iff.mp c1).1]
                    exact c1
                  · rw [w10, hW0.alike.findClass]
                    exact c3
                · obtain ⟨r11, hcl11, hr11⟩ := hSt.2
                  obtain ⟨-, r9, hcl9, ⟨cell, c1, c2, c3, c4⟩, -⟩ := Y.1.1 b _ hb2
                  rw [e9] at hcl9 c2
                  cases hcl9.symm.trans hcl11
                  refine ⟨cell, c1, by rw [c3]; rfl, ?_⟩
                  rw [c2, w10, ← hr11]
                  exact (u_Kn_moved hW0.alike (hKc _ _ hcl11)).2.1
              · have hb9 : Nat.beq (T.2.1 i.2.1.1).2.2 200 = false := by
                  cases hq : Nat.beq (T.2.1 i.2.1.1).2.2 200 with
                  | false => rfl
                  | true => exact absurd (Nat.eq_of_beq_eq_true hq) w9
                rw [hb9] at hc2
                have hc2 : (match h.1 b with | some (.inr q) => Nat.beq q.1 (T.2.1 i.2.1.1).2.2 | _ => false) = true := hc2
                cases hb2 : h.1 b with
                | none => rw [hb2] at hc2; cases hc2
                | some x9 =>
                  rw [hb2] at hc2
                  cases x9 with
                  | inl q => cases hc2
                  | inr q =>
                    have e9 : q.1 = (T.2.1 i.2.1.1).2.2 := Nat.eq_of_beq_eq_true hc2
                    obtain ⟨-, r9, hcl9, ⟨cell, c1, c2, c3, c4⟩, -⟩ := Y.1.1 b _ hb2
                    rw [e9] at hcl9 c2
                    cases hcl9.symm.trans w10
                    refine ⟨cell, c1, by rw [c3]; rfl, ?_⟩
                    rw [c2, ← w11]
                    exact (u_Kn_moved hW0.alike (hKc _ _ w10)).2.1
            have hstk : (F0 m pc ls (xL sa st)).stack = (xL sa as1).reverse ++ .ref (sa b) :: xL sa rest := by
              rw [hst2]
              show (xL sa (.ref b :: as1)).reverse ++ _ = _
              rw [show xL sa (.ref b :: as1) = .ref (sa b) :: xL sa as1 from rfl, List.reverse_cons, List.append_assoc]
              rfl
            have hln : (xL sa as1).length = nn := by
              have : (xL sa as1).length + 1 = i.2.1.2 := hlen
              omega
            have hpv : PreV s H CC (sa b) (xPc s0 D cl xty sa nr (.ref b :: as1) h) (xL sa as1) := ⟨xPc_blind, hcell, hpre⟩
            cases ro1 with
            | inl v =>
              rcases cs with ⟨v', hv', kk⟩ | ⟨E2, hE2, -⟩ | ⟨E2, hp, w, hE2, -⟩
              · cases hv'
                exact retn rfl kk (va_runV CF (xmet hcon) hcw hpv rfl hln hl.1 hstk hroom hd hf)
              · cases hE2
              · cases hE2
            | inr E => exact thrn rfl (thrn2 rfl).1 (vx_runV CF hcon hcw hpv rfl hln hl.1 hstk hroom hd hf)
          | _ => cases hc2
      | 1, _, hc2, hkO =>
        obtain ⟨j, w0, w1, w2, w3, w4, w5, w6⟩ := hkO
        rw [w0] at hd
        have hcw : CallB R s args (M.1 mid).cls j (M.1 i.2.1.1) (M.2.1 i.2.1.1) (T.2.1 i.2.1.1).1 (M.2.2.1 i.2.1.1) (xcode T M i.2.1.1 :: Gw) ({ frames := d1 + 12, cells := h2.2.2.1 - h.2.2.1, slots := h2.2.2.2 - h.2.2.2, locals := 100 * d1 + 400 } : Room) (h2.2.2.1 - h.2.2.1) (h2.2.2.2 - h.2.2.2) i.2.1.2 ∧ (Cond.static (M.1 i.2.1.1)).before args s = true :=
          ⟨callB_of i.2.1.2 hts (hgood w5) (hcodeE w4) rfl rfl (hts _ w3) (hts _ w1) ⟨m3, m4, w6⟩ hR, hts _ w2⟩
        cases ro1 with
        | inl v =>
          rcases cs with ⟨v', hv', kk⟩ | ⟨E2, hE2, -⟩ | ⟨E2, hp, w, hE2, -⟩
          · cases hv'
            exact retn rfl kk (va_runS CF (xmet hcon) hcw ⟨xPc_blind, hpre⟩ rfl hlen hl.1 hst2 hroom hd hf)
          · cases hE2
          · cases hE2
        | inr E => exact thrn rfl (thrn2 rfl).1 (vx_runS CF hcon hcw ⟨xPc_blind, hpre⟩ rfl hlen hl.1 hst2 hroom hd hf)
      | 2, _, hc2, hkO =>
        obtain ⟨j, w0, w1, w2, w3, w4, w5, w6, w7, nn, w8, w9⟩ := hkO
        rw [w0] at hd
        cases ro1 with
        | inr E => exact absurd (thrn2 rfl).2 (by omega)
        | inl v =>
          rcases cs with ⟨v', hv', kk⟩ | ⟨E2, hE2, -⟩ | ⟨E2, hp, w, hE2, -⟩
          · cases hv'
            cases as with
            | nil =>
              have : i.2.1.2 = 0 := a2.symm
              omega
            | cons v0 as1 =>
              have hc2 : xrefh (v0 :: as1) = true := hc2
              cases v0 with
              | ref b =>
                have hstk : (F0 m pc ls (xL sa st)).stack = (xL sa as1).reverse ++ .ref (sa b) :: xL sa rest := by
                  rw [hst2]
                  show (xL sa (.ref b :: as1)).reverse ++ _ = _
                  rw [show xL sa (.ref b :: as1) = .ref (sa b) :: xL sa as1 from rfl, List.reverse_cons, List.append_assoc]
                  rfl
                have hln : (xL sa as1).length = nn := by
                  have : (xL sa as1).length + 1 = i.2.1.2 := hlen
                  omega
                have hps : PreS s H (xPc s0 D cl xty sa nr (.ref b :: as1) h) (.ref (sa b) :: xL sa as1) := ⟨xPc_blind, hpre⟩
                have hcodeN : xcode T M i.2.1.1 :: Gw = Cond.code (M.1 i.2.1.1) (M.2.1 i.2.1.1) (T.2.1 i.2.1.1).1 none :: Gw := by rw [hcodeE w5, w6]
                rcases w1 with w1 | ⟨host, w1⟩
                · have hcb : CallB R s args (M.1 mid).cls j (M.1 i.2.1.1) (M.2.1 i.2.1.1) (T.2.1 i.2.1.1).1 none (xcode T M i.2.1.1 :: Gw) ({ frames := d1 + 12, cells := h2.2.2.1 - h.2.2.1, slots := h2.2.2.2 - h.2.2.2, locals := 100 * d1 + 400 } : Room) (h2.2.2.1 - h.2.2.1) (h2.2.2.2 - h.2.2.2) nn :=
                    callB_of nn hts (hgood w7) hcodeN rfl rfl (hts _ w4) (hts _ w1) ⟨m3, m4, w8⟩ hR
                  exact retn rfl kk (va_runI CF (xmet hcon) ⟨hcb, w2, hts _ w3⟩ hps rfl hln hl.1 hstk hroom hd hf)
                · have hcn : va_CN R s args (M.1 mid).cls j (M.1 i.2.1.1) host (M.2.1 i.2.1.1) (T.2.1 i.2.1.1).1 none (xcode T M i.2.1.1 :: Gw) ({ frames := d1 + 12, cells := h2.2.2.1 - h.2.2.1, slots := h2.2.2.2 - h.2.2.2, locals := 100 * d1 + 400 } : Room) (h2.2.2.1 - h.2.2.1) (h2.2.2.2 - h.2.2.2) nn :=
                    va_cnB nn hts (hgood w7) hcodeN rfl rfl (va_Nw.warmM hW0 (hn _ w1)) (hts _ w4) ⟨m3, m4, w8⟩ hR
                  exact retn rfl kk (va_runIN CF (xmet hcon) ⟨hcn, w2, hts _ w3⟩ hps rfl hln hl.1 hstk hroom hd hf)
              | _ => cases hc2
          · cases hE2
          · cases hE2
      | 3, _, hc2, hkO =>
        rcases hkO with ⟨j, w0, w1, w2, w3, w4, w5⟩ | ⟨j, w0, w1, w2, w3, w4, w5, w6, w7, w8, ⟨nn, w9, w10⟩, cp, rr, w11, w13, w12⟩
        · rw [w0] at hd
          cases ro1 with
          | inr E => exact absurd (thrn2 rfl).2 (by omega)
          | inl v =>
            rcases cs with ⟨v', hv', kk⟩ | ⟨E2, hE2, -⟩ | ⟨E2, hp, w, hE2, -⟩
            · cases hv'
              rcases w5 with ⟨w6, host, w7⟩ | ⟨w6, w7⟩
              · have hcn : va_CN R s args (M.1 mid).cls j (M.1 i.2.1.1) host (M.2.1 i.2.1.1) (T.2.1 i.2.1.1).1 (M.2.2.1 i.2.1.1) (xcode T M i.2.1.1 :: Gw) ({ frames := d1 + 12, cells := h2.2.2.1 - h.2.2.1, slots := h2.2.2.2 - h.2.2.2, locals := 100 * d1 + 400 } : Room) (h2.2.2.1 - h.2.2.1) (h2.2.2.2 - h.2.2.2) i.2.1.2 :=
                  va_cnB i.2.1.2 hts (hgood w3) (hcodeE w6) rfl rfl (va_Nw.warmM hW0 (hn _ w7)) (hts _ w2) ⟨m3, m4, w4⟩ hR
                exact retn rfl kk (va_runSN CF (xmet hcon) ⟨hcn, hts _ w1, trivial⟩ ⟨xPc_blind, hpre⟩ rfl hlen hl.1 hst2 hroom hd hf)
              · cases hh9 : M.2.2.2 i.2.1.1 with
                | nil => exact absurd hh9 w6
                | cons q9 r9 =>
                  have hcodeW : xcode T M i.2.1.1 = Cond.codeWith (M.1 i.2.1.1) (M.2.1 i.2.1.1) (T.2.1 i.2.1.1).1 (M.2.2.1 i.2.1.1) (q9 :: r9) := by unfold xcode; rw [hh9]
                  have hcw9 : vx_CSW R s args (M.1 mid).cls j (M.1 i.2.1.1) (M.2.1 i.2.1.1) (T.2.1 i.2.1.1).1 (M.2.2.1 i.2.1.1) (q9 :: r9) (xcode T M i.2.1.1 :: Gw) ({ frames := d1 + 12, cells := h2.2.2.1 - h.2.2.1, slots := h2.2.2.2 - h.2.2.2, locals := 100 * d1 + 400 } : Room) (h2.2.2.1 - h.2.2.1) (h2.2.2.2 - h.2.2.2) i.2.1.2 :=
                    ⟨⟨rfl, rfl, hR.1, hR.2, pay_in hts (hgood w3), by rw [hcodeW]; exact List.mem_cons_self⟩, by rw [← hcodeW]; exact hts _ w3, hts _ w2, ⟨m3, m4⟩, fun sig hsg => by
                      have h2 := w4
                      unfold xokN2 at h2
                      rw [hsg] at h2
                      exact (Option.some.inj h2).symm, hts _ w7, hts _ w1⟩
                  exact retn rfl kk (vx_runSW CF (xmet hcon) hcw9 ⟨xPc_blind, hpre⟩ rfl hlen hl.1 hst2 hroom hd hf)
            · cases hE2
            · cases hE2
        · rw [w0] at hd
          cases ro1 with
          | inr E => exact absurd (thrn2 rfl).2 (by omega)
          | inl v =>
            rcases cs with ⟨v', hv', kk⟩ | ⟨E2, hE2, -⟩ | ⟨E2, hp, w, hE2, -⟩
            · cases hv'
              have hc3 : (bif Nat.ble 100 (T.2.1 i.2.1.1).2.2 then xrecv nr ((T.2.1 i.2.1.1).2.2 - 100) h as else true) = true := hc2
              rw [w11, show Nat.ble 100 (100 + cp) = true from Nat.ble_eq_true_of_le (by omega), show 100 + cp - 100 = cp by omega] at hc3
              have hc3 : xrecv nr cp h as = true := hc3
              cases as with
              | nil => exact absurd hc3 (by intro q; cases q)
              | cons v0 as1 =>
                cases v0 with
                | ref b =>
                  have hcell : ∃ cellB : Cell, H[sa b]? = some cellB ∧ cellB.vm.isStatics = false ∧ s.vm.findClass rr.1 = some cellB.cls := by
                    have hb9 : Nat.beq cp 200 = false := by
                      cases hq : Nat.beq cp 200 with
                      | false => rfl
                      | true => exact absurd (Nat.eq_of_beq_eq_true hq) (by omega)
                    have hc3 : (bif Nat.beq cp 200 then xstr nr h b else (match h.1 b with | some (.inr q) => Nat.beq q.1 cp | _ => false)) = true := hc3
                    rw [hb9] at hc3
                    have hc3 : (match h.1 b with | some (.inr q) => Nat.beq q.1 cp | _ => false) = true := hc3
                    cases hb2 : h.1 b with
                    | none => rw [hb2] at hc3; cases hc3
                    | some x9 =>
                      rw [hb2] at hc3
                      cases x9 with
                      | inl q => cases hc3
                      | inr q =>
                        have e9 : q.1 = cp := Nat.eq_of_beq_eq_true hc3
                        obtain ⟨-, r9, hcl9, ⟨cell, c1, c2, c3, c4⟩, -⟩ := Y.1.1 b _ hb2
                        rw [e9] at hcl9 c2
                        cases hcl9.symm.trans w12
                        refine ⟨cell, c1, by rw [c3]; rfl, ?_⟩
                        rw [c2]
                        exact (u_Kn_moved hW0.alike (hKc _ _ w12)).2.1
                  have hstk : (F0 m pc ls (xL sa st)).stack = (xL sa as1).reverse ++ .ref (sa b) :: xL sa rest := by
                    rw [hst2]
                    show (xL sa (.ref b :: as1)).reverse ++ _ = _
                    rw [show xL sa (.ref b :: as1) = .ref (sa b) :: xL sa as1 from rfl, List.reverse_cons, List.append_assoc]
                    rfl
                  have hln : (xL sa as1).length = nn := by
                    have : (xL sa as1).length + 1 = i.2.1.2 := hlen
                    omega
                  have hpv : PreV s H rr.1 (sa b) (xPc s0 D cl xty sa nr (.ref b :: as1) h) (xL sa as1) := ⟨xPc_blind, hcell, hpre⟩
                  have hcs : va_CS R s args (M.1 mid).cls j (M.1 i.2.1.1) (M.2.1 i.2.1.1) (T.2.1 i.2.1.1).1 (M.2.2.1 i.2.1.1) (xcode T M i.2.1.1 :: Gw) ({ frames := d1 + 12, cells := h2.2.2.1 - h.2.2.1, slots := h2.2.2.2 - h.2.2.2, locals := 100 * d1 + 400 } : Room) (h2.2.2.1 - h.2.2.1) (h2.2.2.2 - h.2.2.2) nn :=
                    ⟨⟨rfl, rfl, hR.1, hR.2, pay_in hts (hgood w8), by rw [hcodeE w7]; exact List.mem_cons_self⟩, hts _ w2, hts _ w3, hts _ w4, hts _ w5, hts _ w6, by have g8 := hts _ w8; unfold xcode at g8; rw [w7] at g8; exact g8, w1, fun sig hsg => by
                      have h2 := w9
                      unfold xokN2 at h2
                      rw [hsg] at h2
                      exact (Option.some.inj h2).symm⟩
                  exact retn rfl kk (va_runSU (u_Kn_moved hW0.alike (hKc _ _ w12)).2 CF (xmet hcon) hcs hpv rfl hln hl.1 hstk hroom hd hf)
                | _ => cases hc3
            · cases hE2
            · cases hE2
end XS6
