/-! the deep machine runs: rows of a table, calls, throws that leave a method, handlers -/
abbrev XT : Type := (Nat → Nat → Option XI) × ((Nat → Nat × (Nat × Nat)) × (Nat → List (Nat × (Nat × (Nat × Nat)))))
abbrev XO : Type := Option Value ⊕ Nat
abbrev XX : Type := Nat → List Value → XH → Option (Option Value × XH)
def xrI (rt : Nat) (st : List Value) : Option (Option Value) := match st with
  | [.int x] => match rt with
    | 0 => some (some (.int x))
    | 1 => if x = 0 then some (some (.int x)) else if x = 1 then some (some (.int x)) else none
    | 2 => if vp_nar .char x = x then some (some (.int x)) else none
    | 8 => if vp_nar .byte x = x then some (some (.int x)) else none
    | _ => none
  | _ => none
def xrL (rt : Nat) (st : List Value) : Option (Option Value) := match st with
  | [.long x] => bif Nat.beq rt 3 then some (some (.long x)) else none
  | _ => none
def xrF (rt : Nat) (st : List Value) : Option (Option Value) := match st with
  | [.float x] => bif Nat.beq rt 4 then some (some (.float x)) else none
  | _ => none
def xrD (rt : Nat) (st : List Value) : Option (Option Value) := match st with
  | [.double x] => bif Nat.beq rt 5 then some (some (.double x)) else none
  | _ => none
def xrA (rt : Nat) (st : List Value) : Option (Option Value) := match st with
  | [.ref x] => bif Nat.beq rt 6 then some (some (.ref x)) else none
  | [.null] => bif Nat.beq rt 6 then some (some .null) else none
  | _ => none
def xrV (rt : Nat) (st : List Value) : Option (Option Value) := match st with
  | [] => bif Nat.beq rt 7 then some none else none
  | _ => none
def xret (rt : Nat) (i : Instr) (st : List Value) : Option (Option Value) := match i with
  | .ireturn => xrI rt st
  | .lreturn => xrL rt st
  | .freturn => xrF rt st
  | .dreturn => xrD rt st
  | .areturn => xrA rt st
  | .return_ => xrV rt st
  | _ => none
/-- the first row of 'throw new E(text)': which E -/
def xthr (e : XI) : Option Nat := match e.1, e.2.2.2 with
  | .new _, [7] => some e.2.1.1
  | _, _ => none
def xbump (h : XH) : XH := (h.1, (h.2.1.map (fun n => n + 1), (h.2.2.1 + 1, h.2.2.2 + 6)))
def xcut (e : XI) (st : List Value) : Option (List Value × List Value) := if e.2.1.2 ≤ st.length ∧ ((st.drop e.2.1.2).map fun v => v.category).sum ≤ 8 then some ((st.take e.2.1.2).reverse, st.drop e.2.1.2) else none
/-- a call: 0 by the receiver, 1 of a static method, 2 of a constructor, 3 of a static method that only returns, 4 one that is told apart, 5 of Object's constructor -/
def xcall (e : XI) (st : List Value) : Option (Nat × (List Value × List Value)) := match e.1 with
  | .invokevirtual _ => (xcut e st).map (fun q => (e.2.2.2.headD 9, q))
  | .invokestatic _ => (xcut e st).map (fun q => (e.2.2.2.headD 9, q))
  | .invokespecial _ => (xcut e st).map (fun q => (e.2.2.2.headD 9, q))
  | .getfield _ => bif Nat.beq (e.2.2.2.headD 9) 4 then (xcut e st).map (fun q => (e.2.2.2.headD 9, q)) else none
  | _ => none
/-- a String: a constant's, or one that was made -/
def xstr (nr : Nat) (h : XH) (b : Nat) : Bool := (Nat.ble 16 b && Nat.blt b 22) || ((Nat.ble 32 b && (Nat.blt b 52 && Nat.blt b nr)) || (match h.1 b with
    | some (.inr q) => Nat.beq q.1 11
    | _ => false))
def xrecv (nr ci : Nat) (h : XH) (as : List Value) : Bool := match as with
  | .ref b :: _ => bif Nat.beq ci 200 then xstr nr h b else (match h.1 b with
    | some (.inr q) => Nat.beq q.1 ci
    | _ => false)
  | _ => false
def xrefh (as : List Value) : Bool := match as with
  | .ref _ :: _ => true
  | _ => false
def xcan (nr k : Nat) (w : Nat × (Nat × Nat)) (h : XH) (as : List Value) : Bool := Nat.ble (lg_sl as).length w.1 && (match k with
  | 0 => xrecv nr w.2.2 h as
  | 1 => true
  | 2 => xrefh as
  | 3 => bif Nat.ble 100 w.2.2 then xrecv nr (w.2.2 - 100) h as else true
  | _ => false)
def xref1 (as : List Value) : Bool := match as with
  | [.ref _] => true
  | _ => false
def xcatch (hs : List (Nat × (Nat × (Nat × Nat)))) (pc E : Nat) : Option Nat := match hs with
  | [] => none
  | q :: r => bif Nat.ble q.1 pc && (Nat.blt pc q.2.1 && Nat.beq q.2.2.2 E) then some q.2.2.1 else xcatch r pc E
/-- a handler begins with a store of what was thrown: the next row, and the place that is lost -/
def xkeep (e : Option XI) (pc nL : Nat) : Option (Nat × Nat) := match e with
  | some q => match q.1 with
    | .astore_n k => bif Nat.blt k nL then some (pc + 1, (k : Nat)) else none
    | .astore k => bif Nat.blt k nL then some (pc + 2, k) else none
    | _ => none
  | none => none
def xgo (T : XT) (X : XX) (nE nr : Nat) (ro : Nat → Option (Nat × vp_A)) : Nat → Nat → Nat → Nat → XLv → List Value → XH → Option (XO × XH)
  | 0, _, _, _, _, _, _ => none
  | n + 1, d, mid, pc, lv, st, h => match T.1 mid pc with
    | none => none
    | some e => match xflow nE (T.2.1 mid).1 e pc lv st with
      | some r => xgo T X nE nr ro n d mid r.1 r.2.1 r.2.2 h
      | none => match xthr e with
        | some E => bif st.isEmpty then some (.inr E, xbump h) else none
        | none => match xheap ro nr e st h with
          | some r => xgo T X nE nr ro n d mid (pc + xle e) lv r.1 r.2
          | none => match xret (T.2.1 mid).2.1 e.1 st with
            | some v => some (.inl v, h)
            | none => match xcall e st with
              | none => none
              | some q => match q.1 with
                | 4 => match X e.2.1.1 q.2.1 h with
                  | some r => xgo T X nE nr ro n d mid (pc + 3) lv (r.1.toList ++ q.2.2) r.2
                  | none => none
                | 5 => bif xref1 q.2.1 then xgo T X nE nr ro n d mid (pc + 3) lv q.2.2 h else none
                | k => bif xcan nr k (T.2.1 e.2.1.1) h q.2.1 then (match d with
                  | 0 => none
                  | d + 1 => match xgo T X nE nr ro n d e.2.1.1 0 (lv_args 0 q.2.1) [] h with
                    | none => none
                    | some r => match r.1 with
                      | .inl v => xgo T X nE nr ro n (d + 1) mid (pc + 3) lv (v.toList ++ q.2.2) r.2
                      | .inr E => bif Nat.blt k 2 then (match xcatch (T.2.2 mid) pc E with
                        | none => some (.inr E, r.2)
                        | some hp => match xkeep (T.1 mid hp) hp (T.2.1 mid).1 with
                          | none => none
                          | some w => xgo T X nE nr ro n (d + 1) mid w.1 (xcl1 w.2 lv) [] r.2) else none) else none
theorem xbif {α : Type} {b : Bool} {x : Option α} {r : α} (h : (bif b then x else none) = some r) : b = true ∧ x = some r := by
  cases b with
  | false => cases h
  | true => exact ⟨rfl, h⟩
/-- how one step of a run may go, as a case list -/
theorem xgo_cases {T : XT} {X : XX} {nE nr : Nat} {ro : Nat → Option (Nat × vp_A)} {n d mid pc : Nat} {lv : XLv} {st : List Value} {h : XH} {z : XO × XH} (hz : xgo T X nE nr ro (n + 1) d mid pc lv st h = some z) :
    ∃ e, T.1 mid pc = some e ∧ (
      (∃ r, xflow nE (T.2.1 mid).1 e pc lv st = some r ∧ xgo T X nE nr ro n d mid r.1 r.2.1 r.2.2 h = some z) ∨
      (∃ E, xthr e = some E ∧ st = [] ∧ z = (.inr E, xbump h)) ∨
      (∃ r, xthr e = none ∧ xheap ro nr e st h = some r ∧ xgo T X nE nr ro n d mid (pc + xle e) lv r.1 r.2 = some z) ∨
      (∃ v, xret (T.2.1 mid).2.1 e.1 st = some v ∧ z = (.inl v, h)) ∨
      (∃ q r, xcall e st = some (4, q) ∧ X e.2.1.1 q.1 h = some r ∧ xgo T X nE nr ro n d mid (pc + 3) lv (r.1.toList ++ q.2) r.2 = some z) ∨
      (∃ q, xcall e st = some (5, q) ∧ xref1 q.1 = true ∧ xgo T X nE nr ro n d mid (pc + 3) lv q.2 h = some z) ∨
      (∃ k q d1 r, xcall e st = some (k, q) ∧ k < 4 ∧ xcan nr k (T.2.1 e.2.1.1) h q.1 = true ∧ d = d1 + 1 ∧ xgo T X nE nr ro n d1 e.2.1.1 0 (lv_args 0 q.1) [] h = some r ∧
        ((∃ v, r.1 = .inl v ∧ xgo T X nE nr ro n d mid (pc + 3) lv (v.toList ++ q.2) r.2 = some z) ∨
         (∃ E, r.1 = .inr E ∧ k < 2 ∧ xcatch (T.2.2 mid) pc E = none ∧ z = (.inr E, r.2)) ∨
         (∃ E hp w, r.1 = .inr E ∧ k < 2 ∧ xcatch (T.2.2 mid) pc E = some hp ∧ xkeep (T.1 mid hp) hp (T.2.1 mid).1 = some w ∧ xgo T X nE nr ro n d mid w.1 (xcl1 w.2 lv) [] r.2 = some z)))) := by
  rw [xgo] at hz
  cases he : T.1 mid pc with
  | none => rw [he] at hz; cases hz
  | some e =>
    rw [he] at hz
    refine ⟨e, rfl, ?_⟩
    dsimp only at hz
    cases h1 : xflow nE (T.2.1 mid).1 e pc lv st with
    | some r => rw [h1] at hz; exact Or.inl ⟨r, rfl, hz⟩
    | none =>
      rw [h1] at hz
      dsimp only at hz
      refine Or.inr ?_
      cases h2 : xthr e with
      | some E =>
        rw [h2] at hz
        obtain ⟨b1, b2⟩ := xbif hz
        exact Or.inl ⟨E, rfl, List.isEmpty_iff.mp b1, (Option.some.inj b2).symm⟩
      | none =>
        rw [h2] at hz
        dsimp only at hz
        refine Or.inr ?_
        cases h3 : xheap ro nr e st h with
        | some r => rw [h3] at hz; exact Or.inl ⟨r, rfl, rfl, hz⟩
        | none =>
          rw [h3] at hz
          dsimp only at hz
          refine Or.inr ?_
          cases h4 : xret (T.2.1 mid).2.1 e.1 st with
          | some v => rw [h4] at hz; exact Or.inl ⟨v, rfl, (Option.some.inj hz).symm⟩
          | none =>
            rw [h4] at hz
            dsimp only at hz
            refine Or.inr ?_
            cases h5 : xcall e st with
            | none => rw [h5] at hz; cases hz
            | some q =>
              rw [h5] at hz
              dsimp only at hz
              obtain ⟨k, q⟩ := q
              dsimp only at hz
              have own : (bif xcan nr k (T.2.1 e.2.1.1) h q.1 then (match d with
                  | 0 => none
                  | d + 1 => match xgo T X nE nr ro n d e.2.1.1 0 (lv_args 0 q.1) [] h with
                    | none => none
                    | some r => match r.1 with
                      | .inl v => xgo T X nE nr ro n (d + 1) mid (pc + 3) lv (v.toList ++ q.2) r.2
                      | .inr E => bif Nat.blt k 2 then (match xcatch (T.2.2 mid) pc E with
                        | none => some (.inr E, r.2)
                        | some hp => match xkeep (T.1 mid hp) hp (T.2.1 mid).1 with
                          | none => none
                          | some w => xgo T X nE nr ro n (d + 1) mid w.1 (xcl1 w.2 lv) [] r.2) else none) else none) = some z → k < 4 → ∃ d1 r, k < 4 ∧ xcan nr k (T.2.1 e.2.1.1) h q.1 = true ∧ d = d1 + 1 ∧ xgo T X nE nr ro n d1 e.2.1.1 0 (lv_args 0 q.1) [] h = some r ∧
        ((∃ v, r.1 = .inl v ∧ xgo T X nE nr ro n d mid (pc + 3) lv (v.toList ++ q.2) r.2 = some z) ∨
         (∃ E, r.1 = .inr E ∧ k < 2 ∧ xcatch (T.2.2 mid) pc E = none ∧ z = (.inr E, r.2)) ∨
         (∃ E hp w, r.1 = .inr E ∧ k < 2 ∧ xcatch (T.2.2 mid) pc E = some hp ∧ xkeep (T.1 mid hp) hp (T.2.1 mid).1 = some w ∧ xgo T X nE nr ro n d mid w.1 (xcl1 w.2 lv) [] r.2 = some z)) := by
                intro hz hk
                cases hc : xcan nr k (T.2.1 e.2.1.1) h q.1 with
                | false => rw [hc] at hz; cases hz
                | true =>
                  rw [hc] at hz
                  cases d with
                  | zero => cases hz
                  | succ d1 =>
                    dsimp only [cond_true] at hz
                    cases hr : xgo T X nE nr ro n d1 e.2.1.1 0 (lv_args 0 q.1) [] h with
                    | none => rw [hr] at hz; cases hz
                    | some r =>
                      rw [hr] at hz
                      dsimp only at hz
                      refine ⟨d1, r, hk, rfl, rfl, hr, ?_⟩
                      cases ho : r.1 with
                      | inl v => rw [ho] at hz; exact Or.inl ⟨v, rfl, hz⟩
                      | inr E =>
                        rw [ho] at hz
                        dsimp only at hz
                        refine Or.inr ?_
                        cases hk2 : Nat.blt k 2 with
                        | false => rw [hk2] at hz; cases hz
                        | true =>
                        rw [hk2] at hz
                        dsimp only [cond_true] at hz
                        have hk2 := xlt hk2
                        cases hcc : xcatch (T.2.2 mid) pc E with
                        | none => rw [hcc] at hz; exact Or.inl ⟨E, rfl, hk2, hcc, (Option.some.inj hz).symm⟩
                        | some hp =>
                          rw [hcc] at hz
                          dsimp only at hz
                          refine Or.inr ?_
                          cases hw : xkeep (T.1 mid hp) hp (T.2.1 mid).1 with
                          | none => rw [hw] at hz; cases hz
                          | some w => rw [hw] at hz; exact ⟨E, hp, w, rfl, hk2, hcc, hw, hz⟩
              match k, hz with
              | 0, hz =>
                obtain ⟨d1, r, g⟩ := own hz (by omega)
                exact Or.inr (Or.inr ⟨0, q, d1, r, rfl, g⟩)
              | 1, hz =>
                obtain ⟨d1, r, g⟩ := own hz (by omega)
                exact Or.inr (Or.inr ⟨1, q, d1, r, rfl, g⟩)
              | 2, hz =>
                obtain ⟨d1, r, g⟩ := own hz (by omega)
                exact Or.inr (Or.inr ⟨2, q, d1, r, rfl, g⟩)
              | 3, hz =>
                obtain ⟨d1, r, g⟩ := own hz (by omega)
                exact Or.inr (Or.inr ⟨3, q, d1, r, rfl, g⟩)
              | 4, hz =>
                cases hX : X e.2.1.1 q.1 h with
                | none => rw [hX] at hz; cases hz
                | some r => rw [hX] at hz; exact Or.inl ⟨q, r, rfl, hX, hz⟩
              | 5, hz =>
                have hz := xbif hz
                exact Or.inr (Or.inl ⟨q, rfl, hz.1, hz.2⟩)
              | k + 6, hz =>
                have hc : xcan nr (k + 6) (T.2.1 e.2.1.1) h q.1 = false := Bool.and_false _
                have hz2 : (bif xcan nr (k + 6) (T.2.1 e.2.1.1) h q.1 then _ else none) = some z := hz
                rw [hc] at hz2
                cases hz2
section XSTEP
variable {T : XT} {X : XX} {nE nr : Nat} {ro : Nat → Option (Nat × vp_A)} {n d mid pc : Nat} {lv : XLv} {st : List Value} {h : XH} {e : XI}
theorem xno_heap {r : List Value × XH} (q : xheap ro nr e st h = some r) : ∀ nL, xflow nE nL e pc lv st = none := by
  intro nL
  obtain ⟨i, k⟩ := e
  cases i
  case ldc j =>
    have q : xgh h (xgr k.2.1 st) = some r := q
    cases hx : xgr k.2.1 st with
    | none => rw [hx] at q; cases q
    | some z =>
      obtain ⟨b, hb, rfl⟩ := xgr_of hx
      show xgoS (pc + 2) lv (xcst k.2.1 st) = none
      rw [hb]
      rfl
  all_goals first | rfl | cases q
theorem xno_thr {E : Nat} (q : xthr e = some E) : ∀ nL, xflow nE nL e pc lv st = none := by
  intro nL
  obtain ⟨i, k⟩ := e
  cases i <;> first | rfl | cases q
theorem xno_ret {rt : Nat} {v : Option Value} (q : xret rt e.1 st = some v) : (∀ nL, xflow nE nL e pc lv st = none) ∧ xthr e = none ∧ xheap ro nr e st h = none := by
  obtain ⟨i, k⟩ := e
  cases i <;> first | exact ⟨fun _ => rfl, rfl, rfl⟩ | cases q
theorem xno_call {rt : Nat} {v : Nat × (List Value × List Value)} (q : xcall e st = some v) : (∀ nL, xflow nE nL e pc lv st = none) ∧ xthr e = none ∧ xheap ro nr e st h = none ∧ xret rt e.1 st = none := by
  obtain ⟨i, k⟩ := e
  cases i
  case getfield j =>
    have q : (bif Nat.beq (k.2.2.headD 9) 4 then (xcut (.getfield j, k) st).map (fun q => (k.2.2.headD 9, q)) else none) = some v := q
    refine ⟨fun _ => rfl, rfl, ?_, rfl⟩
    show (bif Nat.beq (k.2.2.headD 9) 4 then none else xgh h (xget1 k.1.1 k.1.2 h st)) = none
    cases hq : Nat.beq (k.2.2.headD 9) 4 with
    | true => rfl
    | false => rw [hq] at q; cases q
  all_goals first | exact ⟨fun _ => rfl, rfl, rfl, rfl⟩ | cases q
theorem xgo_f (he : T.1 mid pc = some e) {r : Nat × (XLv × List Value)} (h1 : xflow nE (T.2.1 mid).1 e pc lv st = some r) {z : Option (XO × XH)} (k : xgo T X nE nr ro n d mid r.1 r.2.1 r.2.2 h = z) : xgo T X nE nr ro (n + 1) d mid pc lv st h = z := by
  rw [xgo]
  simp only [he, h1]
  exact k
theorem xgo_t (he : T.1 mid pc = some e) {E : Nat} (h1 : xthr e = some E) : xgo T X nE nr ro (n + 1) d mid pc lv [] h = some (.inr E, xbump h) := by
  rw [xgo]
  simp only [he, xno_thr h1, h1]
  rfl
theorem xgo_h (he : T.1 mid pc = some e) (ht : xthr e = none) {r : List Value × XH} (h1 : xheap ro nr e st h = some r) {z : Option (XO × XH)} (k : xgo T X nE nr ro n d mid (pc + xle e) lv r.1 r.2 = z) : xgo T X nE nr ro (n + 1) d mid pc lv st h = z := by
  rw [xgo]
  simp only [he, xno_heap h1, ht, h1]
  exact k
theorem xgo_r (he : T.1 mid pc = some e) {v : Option Value} (h1 : xret (T.2.1 mid).2.1 e.1 st = some v) : xgo T X nE nr ro (n + 1) d mid pc lv st h = some (.inl v, h) := by
  obtain ⟨a, b, c⟩ := xno_ret (nE := nE) (pc := pc) (lv := lv) (ro := ro) (nr := nr) (h := h) h1
  rw [xgo]
  simp only [he, a, b, c, h1]
theorem xgo_x (he : T.1 mid pc = some e) {q : List Value × List Value} (h1 : xcall e st = some (4, q)) {r : Option Value × XH} (hX : X e.2.1.1 q.1 h = some r) {z : Option (XO × XH)} (k : xgo T X nE nr ro n d mid (pc + 3) lv (r.1.toList ++ q.2) r.2 = z) : xgo T X nE nr ro (n + 1) d mid pc lv st h = z := by
  obtain ⟨a, b, c, f⟩ := xno_call (nE := nE) (pc := pc) (lv := lv) (ro := ro) (nr := nr) (h := h) (rt := (T.2.1 mid).2.1) h1
  rw [xgo]
  simp only [he, a, b, c, f, h1, hX]
  exact k
theorem xgo_o (he : T.1 mid pc = some e) {q : List Value × List Value} (h1 : xcall e st = some (5, q)) (hq : xref1 q.1 = true) {z : Option (XO × XH)} (k : xgo T X nE nr ro n d mid (pc + 3) lv q.2 h = z) : xgo T X nE nr ro (n + 1) d mid pc lv st h = z := by
  obtain ⟨a, b, c, f⟩ := xno_call (nE := nE) (pc := pc) (lv := lv) (ro := ro) (nr := nr) (h := h) (rt := (T.2.1 mid).2.1) h1
  rw [xgo]
  simp only [he, a, b, c, f, h1, hq, cond_true]
  exact k
theorem xgo_c0 (he : T.1 mid pc = some e) {k : Nat} {q : List Value × List Value} (h1 : xcall e st = some (k, q)) (hk : k < 4) (hc : xcan nr k (T.2.1 e.2.1.1) h q.1 = true) : xgo T X nE nr ro (n + 1) (d + 1) mid pc lv st h = (match xgo T X nE nr ro n d e.2.1.1 0 (lv_args 0 q.1) [] h with
                    | none => none
                    | some r => match r.1 with
                      | .inl v => xgo T X nE nr ro n (d + 1) mid (pc + 3) lv (v.toList ++ q.2) r.2
                      | .inr E => bif Nat.blt k 2 then (match xcatch (T.2.2 mid) pc E with
                        | none => some (.inr E, r.2)
                        | some hp => match xkeep (T.1 mid hp) hp (T.2.1 mid).1 with
                          | none => none
                          | some w => xgo T X nE nr ro n (d + 1) mid w.1 (xcl1 w.2 lv) [] r.2) else none) := by
  obtain ⟨a, b, c, f⟩ := xno_call (nE := nE) (pc := pc) (lv := lv) (ro := ro) (nr := nr) (h := h) (rt := (T.2.1 mid).2.1) h1
  rw [xgo]
  simp only [he, a, b, c, f, h1]
  match k, hk with
  | 0, _ => simp only [hc, cond_true]
  | 1, _ => simp only [hc, cond_true]
  | 2, _ => simp only [hc, cond_true]
  | 3, _ => simp only [hc, cond_true]
theorem xgo_c (he : T.1 mid pc = some e) {k : Nat} {q : List Value × List Value} (h1 : xcall e st = some (k, q)) (hk : k < 4) (hc : xcan nr k (T.2.1 e.2.1.1) h q.1 = true) {v : Option Value} {h2 : XH} (hr : xgo T X nE nr ro n d e.2.1.1 0 (lv_args 0 q.1) [] h = some (.inl v, h2)) {z : Option (XO × XH)} (kk : xgo T X nE nr ro n (d + 1) mid (pc + 3) lv (v.toList ++ q.2) h2 = z) : xgo T X nE nr ro (n + 1) (d + 1) mid pc lv st h = z := by
  rw [xgo_c0 he h1 hk hc, hr]
  exact kk
theorem xgo_e (he : T.1 mid pc = some e) {k : Nat} {q : List Value × List Value} (h1 : xcall e st = some (k, q)) (hk : k < 4) (hc : xcan nr k (T.2.1 e.2.1.1) h q.1 = true) {E : Nat} {h2 : XH} (hr : xgo T X nE nr ro n d e.2.1.1 0 (lv_args 0 q.1) [] h = some (.inr E, h2)) (hk2 : k < 2) (hn : xcatch (T.2.2 mid) pc E = none) : xgo T X nE nr ro (n + 1) (d + 1) mid pc lv st h = some (.inr E, h2) := by
  rw [xgo_c0 he h1 hk hc, hr]
  simp only [show Nat.blt k 2 = true from Nat.ble_eq_true_of_le hk2, cond_true, hn]
theorem xgo_k (he : T.1 mid pc = some e) {k : Nat} {q : List Value × List Value} (h1 : xcall e st = some (k, q)) (hk : k < 4) (hc : xcan nr k (T.2.1 e.2.1.1) h q.1 = true) {E hp : Nat} {w : Nat × Nat} {h2 : XH} (hr : xgo T X nE nr ro n d e.2.1.1 0 (lv_args 0 q.1) [] h = some (.inr E, h2)) (hk2 : k < 2) (hn : xcatch (T.2.2 mid) pc E = some hp) (hw : xkeep (T.1 mid hp) hp (T.2.1 mid).1 = some w) {z : Option (XO × XH)} (kk : xgo T X nE nr ro n (d + 1) mid w.1 (xcl1 w.2 lv) [] h2 = z) : xgo T X nE nr ro (n + 1) (d + 1) mid pc lv st h = z := by
  rw [xgo_c0 he h1 hk hc, hr]
  simp only [show Nat.blt k 2 = true from Nat.ble_eq_true_of_le hk2, cond_true, hn, hw]
  exact kk
end XSTEP
/-- more fuel does no harm -/
theorem xgo_more {T : XT} {X : XX} {nE nr : Nat} {ro : Nat → Option (Nat × vp_A)} : ∀ (n d mid pc : Nat) (lv : XLv) (st : List Value) (h : XH) (z : XO × XH), xgo T X nE nr ro n d mid pc lv st h = some z → xgo T X nE nr ro (n + 1) d mid pc lv st h = some z := by
  intro n
  induction n with
  | zero =>
    intro d mid pc lv st h z hz
    rw [xgo] at hz
    cases hz
  | succ n ih =>
    intro d mid pc lv st h z hz
    obtain ⟨e, he, c⟩ := xgo_cases hz
    rcases c with ⟨r, h1, k⟩ | ⟨E, h1, rfl, rfl⟩ | ⟨r, ht, h1, k⟩ | ⟨v, h1, rfl⟩ | ⟨q, r, h1, hX, k⟩ | ⟨q, h1, hq1, k⟩ | ⟨k, q, d1, r, h1, hk, hc, rfl, hr, c⟩
    · exact xgo_f he h1 (ih _ _ _ _ _ _ _ k)
    · exact xgo_t he h1
    · exact xgo_h he ht h1 (ih _ _ _ _ _ _ _ k)
    · exact xgo_r he h1
    · exact xgo_x he h1 hX (ih _ _ _ _ _ _ _ k)
    · exact xgo_o he h1 hq1 (ih _ _ _ _ _ _ _ k)
    · obtain ⟨r1, r2⟩ := r
      rcases c with ⟨v, rfl, kk⟩ | ⟨E, rfl, hk2, hn, rfl⟩ | ⟨E, hp, w, rfl, hk2, hn, hw, kk⟩
      · exact xgo_c he h1 hk hc (ih _ _ _ _ _ _ _ hr) (ih _ _ _ _ _ _ _ kk)
      · exact xgo_e he h1 hk hc (ih _ _ _ _ _ _ _ hr) hk2 hn
      · exact xgo_k he h1 hk hc (ih _ _ _ _ _ _ _ hr) hk2 hn hw (ih _ _ _ _ _ _ _ kk)
theorem xgo_le {T : XT} {X : XX} {nE nr : Nat} {ro : Nat → Option (Nat × vp_A)} {n m d mid pc : Nat} {lv : XLv} {st : List Value} {h : XH} {z : XO × XH} (hz : xgo T X nE nr ro n d mid pc lv st h = some z) (hm : n ≤ m) : xgo T X nE nr ro m d mid pc lv st h = some z := by
  induction hm with
  | refl => exact hz
  | step _ ih => exact xgo_more _ _ _ _ _ _ _ _ ih
/-- more depth does no harm -/
theorem xgo_deep {T : XT} {X : XX} {nE nr : Nat} {ro : Nat → Option (Nat × vp_A)} : ∀ (n d mid pc : Nat) (lv : XLv) (st : List Value) (h : XH) (z : XO × XH), xgo T X nE nr ro n d mid pc lv st h = some z → xgo T X nE nr ro n (d + 1) mid pc lv st h = some z := by
  intro n
  induction n with
  | zero =>
    intro d mid pc lv st h z hz
    rw [xgo] at hz
    cases hz
  | succ n ih =>
    intro d mid pc lv st h z hz
    obtain ⟨e, he, c⟩ := xgo_cases hz
    rcases c with ⟨r, h1, k⟩ | ⟨E, h1, rfl, rfl⟩ | ⟨r, ht, h1, k⟩ | ⟨v, h1, rfl⟩ | ⟨q, r, h1, hX, k⟩ | ⟨q, h1, hq1, k⟩ | ⟨k, q, d1, r, h1, hk, hc, rfl, hr, c⟩
    · exact xgo_f he h1 (ih _ _ _ _ _ _ _ k)
    · exact xgo_t he h1
    · exact xgo_h he ht h1 (ih _ _ _ _ _ _ _ k)
    · exact xgo_r he h1
    · exact xgo_x he h1 hX (ih _ _ _ _ _ _ _ k)
    · exact xgo_o he h1 hq1 (ih _ _ _ _ _ _ _ k)
    · obtain ⟨r1, r2⟩ := r
      rcases c with ⟨v, rfl, kk⟩ | ⟨E, rfl, hk2, hn, rfl⟩ | ⟨E, hp, w, rfl, hk2, hn, hw, kk⟩
      · exact xgo_c he h1 hk hc (ih _ _ _ _ _ _ _ hr) (ih _ _ _ _ _ _ _ kk)
      · exact xgo_e he h1 hk hc (ih _ _ _ _ _ _ _ hr) hk2 hn
      · exact xgo_k he h1 hk hc (ih _ _ _ _ _ _ _ hr) hk2 hn hw (ih _ _ _ _ _ _ _ kk)
theorem xgo_dle {T : XT} {X : XX} {nE nr : Nat} {ro : Nat → Option (Nat × vp_A)} {n d b mid pc : Nat} {lv : XLv} {st : List Value} {h : XH} {z : XO × XH} (hz : xgo T X nE nr ro n d mid pc lv st h = some z) (hm : d ≤ b) : xgo T X nE nr ro n b mid pc lv st h = some z := by
  induction hm with
  | refl => exact hz
  | step _ ih => exact xgo_deep _ _ _ _ _ _ _ _ ih
/-- what is made is never given back -/
def xup2 (h h2 : XH) : Prop := h.2.2.1 ≤ h2.2.2.1 ∧ h.2.2.2 ≤ h2.2.2.2
theorem xup2.rf {h : XH} : xup2 h h := ⟨Nat.le_refl _, Nat.le_refl _⟩
theorem xup2.tr {a b c : XH} (h : xup2 a b) (k : xup2 b c) : xup2 a c := ⟨Nat.le_trans h.1 k.1, Nat.le_trans h.2 k.2⟩
theorem xast_up {h : XH} {k : Nat} {st : List Value} {r : List Value × XH} (q : xast h k st = some r) : xup2 h r.2 := by
  obtain ⟨v, i, a, r0, t, x, y, -, -, -, -, -, -, rfl⟩ := xast_of q
  exact xup2.rf
theorem xheap_up {ro : Nat → Option (Nat × vp_A)} {nr : Nat} {e : XI} {st : List Value} {h : XH} {r : List Value × XH} (q : xheap ro nr e st h = some r) : xup2 h r.2 := by
  have gh : ∀ {q : Option (List Value)}, xgh h q = some r → xup2 h r.2 := fun {q} z => by
    cases q with
    | none => cases z
    | some st' => cases z; exact xup2.rf
  obtain ⟨i, ⟨a, a2⟩, vs, ts⟩ := e
  cases i
  case getfield j =>
    have q : (bif Nat.beq (ts.headD 9) 4 then none else xgh h (xget1 a a2 h st)) = some r := q
    cases hq : Nat.beq (ts.headD 9) 4 with
    | true => rw [hq] at q; cases q
    | false => rw [hq] at q; exact gh q
  case getstatic j => exact gh q
  case ldc j => exact gh q
  case iaload => exact gh q
  case laload => exact gh q
  case daload => exact gh q
  case caload => exact gh q
  case baload => exact gh q
  case aaload => exact gh q
  case arraylength => exact gh q
  case iastore => exact xast_up q
  case lastore => exact xast_up q
  case dastore => exact xast_up q
  case castore => exact xast_up q
  case bastore => exact xast_up q
  case aastore => exact xast_up q
  case putfield j =>
    have q : xput1 a a2 (ts.headD 9) h st = some r := q
    unfold xput1 at q
    split at q
    · split at q
      · have q := (xbif q).2
        cases q
        exact xup2.rf
      · cases q
    · cases q
  case new j =>
    have q : xnew1 nr a a2 vs h st = some r := q
    unfold xnew1 at q
    split at q
    · cases q; exact ⟨Nat.le_add_right _ _, Nat.le_add_right _ _⟩
    · cases q
  case newarray t =>
    have q : xnewa nr t h st = some r := q
    unfold xnewa at q
    split at q
    · have q := (xbif q).2
      split at q
      · cases q; exact ⟨Nat.le_add_right _ _, Nat.le_add_right _ _⟩
      · cases q
    · cases q
  case anewarray j =>
    have q : (bif Nat.beq (ts.headD 9) 6 then xnewqI nr h st else xnewq nr a h st) = some r := q
    cases hq : Nat.beq (ts.headD 9) 6 with
    | true =>
      rw [hq] at q
      have q : xnewqI nr h st = some r := q
      unfold xnewqI at q
      split at q
      · have q := (xbif q).2
        cases q; exact ⟨Nat.le_add_right _ _, Nat.le_add_right _ _⟩
      · cases q
    | false =>
      rw [hq] at q
      have q : xnewq nr a h st = some r := q
      unfold xnewq at q
      split at q
      · have q := (xbif q).2
        cases q; exact ⟨Nat.le_add_right _ _, Nat.le_add_right _ _⟩
      · cases q
  case multianewarray j b =>
    have q : (bif Nat.beq b 2 then xnewm nr h st else none) = some r := q
    have q := (xbif q).2
    unfold xnewm at q
    split at q
    · have q := (xbif q).2
      cases q; exact ⟨Nat.le_add_right _ _, Nat.le_add_right _ _⟩
    · cases q
  all_goals cases q
theorem xgo_up {T : XT} {X : XX} {nE nr : Nat} {ro : Nat → Option (Nat × vp_A)} (hX : ∀ i as h r, X i as h = some r → xup2 h r.2) : ∀ (n d mid pc : Nat) (lv : XLv) (st : List Value) (h : XH) (z : XO × XH), xgo T X nE nr ro n d mid pc lv st h = some z → xup2 h z.2 := by
  intro n
  induction n with
  | zero =>
    intro d mid pc lv st h z hz
    rw [xgo] at hz
    cases hz
  | succ n ih =>
    intro d mid pc lv st h z hz
    obtain ⟨e, he, c⟩ := xgo_cases hz
    rcases c with ⟨r, h1, k⟩ | ⟨E, h1, rfl, rfl⟩ | ⟨r, ht, h1, k⟩ | ⟨v, h1, rfl⟩ | ⟨q, r, h1, hX1, k⟩ | ⟨q, h1, hq1, k⟩ | ⟨k, q, d1, r, h1, hk, hc, rfl, hr, c⟩
    · exact ih _ _ _ _ _ _ _ k
    · exact ⟨Nat.le_add_right _ _, Nat.le_add_right _ _⟩
    · exact (xheap_up h1).tr (ih _ _ _ _ _ _ _ k)
    · exact xup2.rf
    · exact (hX _ _ _ _ hX1).tr (ih _ _ _ _ _ _ _ k)
    · exact ih _ _ _ _ _ _ _ k
    · have h0 := ih _ _ _ _ _ _ _ hr
      rcases c with ⟨v, hv, kk⟩ | ⟨E, hE, hk2, hn, rfl⟩ | ⟨E, hp, w, hE, hk2, hn, hw, kk⟩
      · exact h0.tr (ih _ _ _ _ _ _ _ kk)
      · exact h0
      · exact h0.tr (ih _ _ _ _ _ _ _ kk)
