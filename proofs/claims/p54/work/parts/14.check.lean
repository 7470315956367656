/-! every row of the table is right: one check, done by the kernel -/
theorem xdt (p : Prop) [Decidable p] (h : decide p = true) : p := of_decide_eq_true h
noncomputable def chkKi (o i : Nat) (vs : List Value) : Bool := match vs with
  | [.int x] => decide ((o, (i, x)) ∈ LKl)
  | _ => false
noncomputable def chkKs (o i : Nat) (vs : List Value) : Bool := match vs with
  | [.ref _] => true
  | _ => chkKi o i vs
noncomputable def chkKt (o i : Nat) (vs : List Value) : Bool := match vs with
  | [.ref q] => decide ((o, (i, q)) ∈ LKsl)
  | _ => true
noncomputable def chkKl (o i : Nat) (vs : List Value) : Bool := match vs with
  | [.long x] => decide ((o, (i, x)) ∈ LLl)
  | [.double x] => decide ((o, (i, x)) ∈ LDl)
  | _ => false
noncomputable def chkSt (o i : Nat) (vs : List Value) : Bool := match vs with
  | [v] => LSl.any (fun z => decide (z = (o, (i, v))))
  | _ => false
noncomputable def chkNw (o i mid pc : Nat) (e : XI) (t : Option Nat) : Bool := match t with
  | some _ => decide ((mid, (pc, e.2.1.1)) ∈ LTl) && Nat.blt e.2.1.1 6
  | none => decide ((o, (i, e.2.1)) ∈ LNl) && decide (e.2.2.1 = xdf e.2.1.1)
theorem chkKi_ok {o i : Nat} {vs : List Value} (h : chkKi o i vs = true) : ∃ x, vs = [.int x] ∧ Cond.constant (xown o) i x ∈ Gw := by
  unfold chkKi at h
  split at h
  · rename_i x
    exact ⟨_, rfl, LKl_ok _ (xdt _ h)⟩
  · cases h
theorem chkKs_ok {o i : Nat} {vs : List Value} (h : chkKs o i vs = true) : (∃ x, vs = [.int x] ∧ Cond.constant (xown o) i x ∈ Gw) ∨ ∃ q, vs = [.ref q] := by
  unfold chkKs at h
  split at h
  · exact Or.inr ⟨_, rfl⟩
  · exact Or.inl (chkKi_ok h)
theorem chkKl_ok {o i : Nat} {vs : List Value} (h : chkKl o i vs = true) : (∃ x, vs = [.long x] ∧ Cond.constantLong (xown o) i x ∈ Gw) ∨ ∃ x, vs = [.double x] ∧ Cond.constantDouble (xown o) i x ∈ Gw := by
  unfold chkKl at h
  split at h
  · rename_i x
    exact Or.inl ⟨_, rfl, LLl_ok _ (xdt _ h)⟩
  · rename_i x
    exact Or.inr ⟨_, rfl, LDl_ok _ (xdt _ h)⟩
  · cases h
theorem chkSt_ok {o i : Nat} {vs : List Value} (h : chkSt o i vs = true) : ∃ r, vs = [r] ∧ (o, (i, r)) ∈ LSl := by
  unfold chkSt at h
  split at h
  · obtain ⟨z, h1, h2⟩ := List.any_eq_true.mp h
    have h3 := of_decide_eq_true h2
    rw [h3] at h1
    exact ⟨_, rfl, h1⟩
  · cases h
noncomputable def chkF (o : Nat) (e : XI) (pc : Nat) : Bool := match e.1 with
  | .iconst n => decide (e.2.2.1 = [.int (Int32.ofInt n)])
  | .bipush n => decide (e.2.2.1 = [.int (Int8.ofInt n).toInt32])
  | .sipush n => decide (e.2.2.1 = [.int (Int16.ofInt n).toInt32])
  | .lconst n => decide (e.2.2.1 = [.long (Int64.ofNat (n : Nat))])
  | .iinc _ n => decide (e.2.2.1 = [.int (Int32.ofInt n)])
  | .ldc i => chkKs o i e.2.2.1
  | .ldc_w i => chkKi o i e.2.2.1
  | .ldc2_w i => chkKl o i e.2.2.1
  | .goto d | .ifCond _ d | .if_icmp _ d | .if_acmp _ d | .ifnull d | .ifnonnull d => decide ((pc : Int) + d = (e.2.1.1 : Int))
  | .tableswitch d _ _ offs => decide ((pc : Int) + d = (e.2.1.1 : Int)) && decide (offs.toList.map (fun q => (pc : Int) + q) = e.2.2.2.map (fun t : Nat => (t : Int)))
  | .lookupswitch d ps => decide ((pc : Int) + d = (e.2.1.1 : Int)) && (decide (ps.toList.map (fun q => (pc : Int) + q.2) = e.2.2.2.map (fun t : Nat => (t : Int))) && (ps.toList.zip (ps.toList.drop 1)).all (fun (a, next) => a.1 < next.1))
  | _ => true
noncomputable def chkC (o i : Nat) (e : XI) : Bool := bif Nat.beq (e.2.2.2.headD 9) 4 then LXl.any (fun z => decide (z = (o, e))) else bif decide (e = (xins (e.2.2.2.headD 9) i, (e.2.1, ([], [e.2.2.2.headD 9])))) then decide ((o, (i, (e.2.2.2.headD 9, e.2.1))) ∈ LCl) else decide ((o, (i, e.2.1)) ∈ LUl) && decide (e = ((.invokespecial i, (e.2.1, ([], [3]))) : XI))
noncomputable def chkL (o mid ini pc : Nat) (e : XI) : Bool := match e.1 with
  | .getfield i => bif Nat.beq (e.2.2.2.headD 9) 4 then LXl.any (fun z => decide (z = (o, e))) else decide ((o, (i, e.2.1)) ∈ LFl)
  | .putfield i => decide ((ini, (o, (i, (e.2.1.1, (e.2.1.2, e.2.2.2.headD 9))))) ∈ LPl)
  | .getstatic i => chkSt o i e.2.2.1
  | .new i => chkNw o i mid pc e (xthr e)
  | .newarray t => match t with
    | .int | .long | .char | .byte => true
    | _ => false
  | .anewarray i => bif Nat.beq (e.2.2.2.headD 9) 6 then decide ((o, i) ∈ LQIl) else decide ((o, (i, e.2.1.1)) ∈ LQl)
  | .ldc i => chkKt o i e.2.2.1
  | .multianewarray i _ => decide ((o, i) ∈ LMl)
  | .invokevirtual i => chkC o i e
  | .invokestatic i => chkC o i e
  | .invokespecial i => chkC o i e
  | _ => true
noncomputable def chkE (bytes : ByteArray) (o mid ini : Nat) (q : Nat × XI) : Bool := decide (decode bytes q.1 = .ok (q.2.1, xle q.2)) && (chkF o q.2 q.1 && chkL o mid ini q.1 q.2)
theorem xany {o : Nat} {e : XI} (h : LXl.any (fun z => decide (z = (o, e))) = true) : (o, e) ∈ LXl := by
  obtain ⟨z, h1, h2⟩ := List.any_eq_true.mp h
  have h3 : z = (o, e) := of_decide_eq_true h2
  rw [← h3]
  exact h1
/-- the words that only the start can say: statics, throws -/
def xDyn (s0 : State) (sa : Nat → Nat) : Prop := (∀ q ∈ LSl, xokS s0 Gw Gn sa (xown q.1) q.2.1 q.2.2) ∧ (∀ q ∈ LTl, xokT s0 xM (xM.1 q.1).cls q.1 q.2.1 q.2.2) ∧ (∀ q ∈ LKsl, ∃ tx, vk_R (xown q.1) q.2.1 tx (sa q.2.2) s0) ∧ ∃ A : Array Value, ∀ w ∈ lw_tbl, w.before A s0 = true
def xokX0 (own : String) (e : XI) : Prop := ∃ o, (o, e) ∈ LXl ∧ own = xown o
theorem xfind_mem : ∀ (l : List (Nat × XI)) (pc : Nat) (e : XI), xfind l pc = some e → (pc, e) ∈ l
  | [], _, _, h => by cases h
  | q :: r, pc, e, h => by
    unfold xfind at h
    cases hb : Nat.beq q.1 pc with
    | true =>
      rw [hb] at h
      have e1 := Nat.eq_of_beq_eq_true hb
      have e2 : q.2 = e := Option.some.inj h
      obtain ⟨a, b⟩ := q
      cases e1; cases e2
      exact List.mem_cons_self
    | false =>
      rw [hb] at h
      exact List.mem_cons_of_mem _ (xfind_mem r pc e h)
theorem chkF_ok {o pc : Nat} {e : XI} (h : chkF o e pc = true) : xokF Gw (xown o) e pc := by
  obtain ⟨i, ⟨a, b⟩, vs, ts⟩ := e
  cases i
  case iconst n => exact xdt (vs = [.int (Int32.ofInt n)]) h
  case bipush n => exact xdt (vs = [.int (Int8.ofInt n).toInt32]) h
  case sipush n => exact xdt (vs = [.int (Int16.ofInt n).toInt32]) h
  case lconst n => exact xdt (vs = [.long (Int64.ofNat (n : Nat))]) h
  case iinc j n => exact xdt (vs = [.int (Int32.ofInt n)]) h
  case ldc j => exact chkKs_ok h
  case ldc_w j => exact chkKi_ok h
  case ldc2_w j => exact chkKl_ok h
  case goto d => exact xdt ((pc : Int) + d = (a : Int)) h
  case ifCond k d => exact xdt ((pc : Int) + d = (a : Int)) h
  case if_icmp k d => exact xdt ((pc : Int) + d = (a : Int)) h
  case if_acmp k d => exact xdt ((pc : Int) + d = (a : Int)) h
  case ifnull d => exact xdt ((pc : Int) + d = (a : Int)) h
  case ifnonnull d => exact xdt ((pc : Int) + d = (a : Int)) h
  case tableswitch d lo hi offs =>
    obtain ⟨h1, h2⟩ := Bool.and_eq_true_iff.mp h
    exact ⟨xdt _ h1, xdt _ h2⟩
  case lookupswitch d ps =>
    obtain ⟨h1, h2⟩ := Bool.and_eq_true_iff.mp h
    obtain ⟨h3, h4⟩ := Bool.and_eq_true_iff.mp h2
    exact ⟨xdt _ h1, xdt _ h3, h4⟩
  all_goals exact True.intro
theorem chkC_ok {o i : Nat} {e : XI} (h : chkC o i e = true) : xokC xT xM xcl Gw Gn xokX0 (xown o) e ∧ (e.2.2.2.headD 9 < 4 → True) := by
  refine ⟨?_, fun _ => trivial⟩
  unfold chkC at h
  cases hb : Nat.beq (e.2.2.2.headD 9) 4 with
  | true =>
    rw [hb] at h
    have e4 := Nat.eq_of_beq_eq_true hb
    unfold xokC
    rw [e4]
    exact ⟨o, xany h, rfl⟩
  | false =>
    rw [hb] at h
    have h : (bif decide (e = (xins (e.2.2.2.headD 9) i, (e.2.1, ([], [e.2.2.2.headD 9])))) then decide ((o, (i, (e.2.2.2.headD 9, e.2.1))) ∈ LCl) else decide ((o, (i, e.2.1)) ∈ LUl) && decide (e = ((.invokespecial i, (e.2.1, ([], [3]))) : XI))) = true := h
    cases hbb : decide (e = (xins (e.2.2.2.headD 9) i, (e.2.1, ([], [e.2.2.2.headD 9])))) with
    | false =>
      rw [hbb] at h
      obtain ⟨g1, g2⟩ := Bool.and_eq_true_iff.mp h
      have g3 := LUl_ok _ (of_decide_eq_true g1)
      have g4 := of_decide_eq_true g2
      rw [g4]
      exact g3
    | true =>
    rw [hbb] at h
    have h3 := LCl_ok _ (of_decide_eq_true h)
    have h4 := of_decide_eq_true hbb
    have hne : e.2.2.2.headD 9 ≠ 4 := fun z => by rw [z] at hb; cases hb
    generalize hk : e.2.2.2.headD 9 = k at h3 h4 hne
    obtain ⟨j, ⟨a, b⟩, vs, ts⟩ := e
    have h4 : (j, ((a, b), (vs, ts))) = (xins k i, ((a, b), ([], [k]))) := h4
    rw [h4]
    have h3 : xokC xT xM xcl Gw Gn (fun _ _ => True) (xown o) (xins k i, ((a, b), ([], [k]))) := h3
    unfold xokC at h3 ⊢
    match k, hne, h3 with
    | 0, _, h3 => exact h3
    | 1, _, h3 => exact h3
    | 2, _, h3 => exact h3
    | 3, _, h3 => exact h3
    | 5, _, h3 => exact h3
    | k + 6, _, h3 => exact h3
/-- what xAll asks of a row -/
def xRow (s0 : State) (sa : Nat → Nat) (mid pc : Nat) (e : XI) : Prop := decode (xM.2.1 mid) pc = .ok (e.1, xle e) ∧ xokF Gw (xM.1 mid).cls e pc ∧ (xthr e = none → xokH s0 xcl Gw Gn sa (xM.1 mid).cls (xM.1 mid).name e) ∧ (∀ q, ∀ st, xcall e st = some q → xokC xT xM xcl Gw Gn xokX0 (xM.1 mid).cls e) ∧ (∀ E, xthr e = some E → E < 6 ∧ xokT s0 xM (xM.1 mid).cls mid pc E)
theorem chk_ok {s0 : State} {sa : Nat → Nat} (hy : xDyn s0 sa) {bytes : ByteArray} {o mid ini : Nat} {l : List (Nat × XI)} (h : l.all (fun q => chkE bytes o mid ini q) = true) (hb : xM.2.1 mid = bytes) (ho : (xM.1 mid).cls = xown o) (hi : ini = 1 → (xM.1 mid).name = "<init>") : ∀ pc e, xfind l pc = some e → xRow s0 sa mid pc e := by
  intro pc e he
  obtain ⟨hS, hT, hL, A, hts⟩ := hy
  have h1 := List.all_eq_true.mp h _ (xfind_mem l pc e he)
  obtain ⟨c1, c2⟩ := Bool.and_eq_true_iff.mp h1
  obtain ⟨c3, c4⟩ := Bool.and_eq_true_iff.mp c2
  change chkL o mid ini pc e = true at c4
  refine ⟨by rw [hb]; exact xdt _ c1, by rw [ho]; exact chkF_ok c3, ?_, ?_, ?_⟩
  · intro ht
    rw [ho]
    obtain ⟨i, ⟨a, b⟩, vs, ts⟩ := e
    cases i
    case getfield j =>
      intro hne
      have c4 : (bif Nat.beq (ts.headD 9) 4 then LXl.any (fun z => decide (z = (o, ((.getfield j, ((a, b), (vs, ts))) : XI)))) else decide ((o, (j, (a, b))) ∈ LFl)) = true := c4
      cases hq : Nat.beq (ts.headD 9) 4 with
      | true => exact absurd (Nat.eq_of_beq_eq_true hq) hne
      | false =>
        rw [hq] at c4
        exact LFl_ok _ (xdt _ c4)
    case putfield j => exact LPl_ok (ini, (o, (j, (a, (b, ts.headD 9))))) (xdt _ c4) _ hi
    case getstatic j =>
      intro v hv
      have hv : vs = [v] := hv
      subst hv
      have c4 : chkSt o j [v] = true := c4
      obtain ⟨r, hr, hm⟩ := chkSt_ok c4
      have e9 : v = r := (List.cons.inj hr).1
      subst e9
      exact hS _ hm
    case new j =>
      have c4 : chkNw o j mid pc (.new j, ((a, b), (vs, ts))) (xthr (.new j, ((a, b), (vs, ts)))) = true := c4
      rw [ht] at c4
      obtain ⟨d1, d2⟩ := Bool.and_eq_true_iff.mp c4
      have d2 : vs = xdf a := xdt _ d2
      subst d2
      exact LNl_ok (o, (j, (a, b))) (xdt _ d1)
    case newarray t =>
      cases t <;> first | exact ac_int | exact ac_long | exact ac_char | exact ac_byte | cases c4
    case anewarray j =>
      have c4 : (bif Nat.beq (ts.headD 9) 6 then decide ((o, j) ∈ LQIl) else decide ((o, (j, a)) ∈ LQl)) = true := c4
      cases hq : Nat.beq (ts.headD 9) 6 with
      | true =>
        rw [hq] at c4
        exact Or.inl ⟨hq, LQIl_ok (o, j) (xdt _ c4), over_moved (a := A) (a' := #[]) (Vm.Alike.refl _) (hts _ ao_int)⟩
      | false =>
        rw [hq] at c4
        obtain ⟨r, r1, r2, r3⟩ := LQl_ok (o, (j, a)) (xdt _ c4)
        exact Or.inr ⟨hq, r, r1, r2, va_AO.of (hts _ r3)⟩
    case aastore => exact fun _ => over_moved (a := A) (a' := #[]) (Vm.Alike.refl _) (hts _ ao_int)
    case ldc j =>
      intro q hq
      have hq : vs = [.ref q] := hq
      subst hq
      exact hL (o, (j, q)) (xdt _ (show decide ((o, (j, q)) ∈ LKsl) = true from c4))
    case multianewarray j d =>
      obtain ⟨r1, r2, r3⟩ := LMl_ok (o, j) (xdt _ c4)
      exact ⟨r1, r2, over_moved (a := A) (a' := #[]) (Vm.Alike.refl _) (hts _ r3), trivial⟩
    all_goals exact True.intro
  · intro q st hq
    rw [ho]
    obtain ⟨i, ⟨a, b⟩, vs, ts⟩ := e
    cases i
    case invokevirtual j => exact (chkC_ok c4).1
    case invokestatic j => exact (chkC_ok c4).1
    case invokespecial j => exact (chkC_ok c4).1
    case getfield j =>
      have c4 : (bif Nat.beq (ts.headD 9) 4 then LXl.any (fun z => decide (z = (o, ((.getfield j, ((a, b), (vs, ts))) : XI)))) else decide ((o, (j, (a, b))) ∈ LFl)) = true := c4
      have hq : (bif Nat.beq (ts.headD 9) 4 then (xcut (.getfield j, ((a, b), (vs, ts))) st).map (fun q => (ts.headD 9, q)) else none) = some q := hq
      cases hq9 : Nat.beq (ts.headD 9) 4 with
      | false => rw [hq9] at hq; cases hq
      | true =>
        rw [hq9] at c4
        unfold xokC
        rw [show (((.getfield j, ((a, b), (vs, ts))) : XI).2.2.2.headD 9) = 4 from Nat.eq_of_beq_eq_true hq9]
        exact ⟨o, xany c4, rfl⟩
    all_goals cases hq
  · intro E hE
    obtain ⟨i, ⟨a, b⟩, vs, ts⟩ := e
    cases i
    case new j =>
      have c4 : chkNw o j mid pc (.new j, ((a, b), (vs, ts))) (xthr (.new j, ((a, b), (vs, ts)))) = true := c4
      rw [hE] at c4
      obtain ⟨d1, d2⟩ := Bool.and_eq_true_iff.mp c4
      have hEa : E = a := by
        unfold xthr at hE
        dsimp only at hE
        split at hE
        · exact (Option.some.inj hE).symm
        · cases hE
      subst hEa
      exact ⟨xlt d2, hT (mid, (pc, E)) (xdt _ d1)⟩
    all_goals cases hE
theorem xchunk {l : List (Nat × XI)} {p : Nat × XI → Bool} {a : Nat} (h1 : ((l.drop a).take 60).all p = true) (h2 : (l.drop (a + 60)).all p = true) : (l.drop a).all p = true := by
  have h3 : l.drop (a + 60) = (l.drop a).drop 60 := by rw [List.drop_drop]
  rw [h3] at h2
  rw [← List.take_append_drop 60 (l.drop a), List.all_append, h1, h2]
  rfl
theorem xchunk_e {p : Nat × XI → Bool} (l : List (Nat × XI)) (h : l.isEmpty = true) : l.all p = true := by
  rw [List.isEmpty_iff.mp h]
  rfl
theorem xdrop0 {l : List (Nat × XI)} {p : Nat × XI → Bool} (h : (l.drop 0).all p = true) : l.all p = true := h
