/-! every row of the table is right: one check, done by the kernel -/
def chkF (o : Nat) (e : XI) (pc : Nat) : Bool := match e.1 with
  | .iconst n => decide (e.2.2.1 = [.int (Int32.ofInt n)])
  | .bipush n => decide (e.2.2.1 = [.int (Int8.ofInt n).toInt32])
  | .sipush n => decide (e.2.2.1 = [.int (Int16.ofInt n).toInt32])
  | .lconst n => decide (e.2.2.1 = [.long (Int64.ofNat (n : Nat))])
  | .iinc _ n => decide (e.2.2.1 = [.int (Int32.ofInt n)])
  | .ldc i => match e.2.2.1 with
    | [.int x] => decide ((o, (i, x)) ∈ LKl)
    | _ => false
  | .ldc_w i => match e.2.2.1 with
    | [.int x] => decide ((o, (i, x)) ∈ LKl)
    | _ => false
  | .ldc2_w i => match e.2.2.1 with
    | [.long x] => decide ((o, (i, x)) ∈ LLl)
    | _ => false
  | .goto d | .ifCond _ d | .if_icmp _ d | .if_acmp _ d | .ifnull d | .ifnonnull d => decide ((pc : Int) + d = (e.2.1.1 : Int))
  | .tableswitch d _ _ offs => decide ((pc : Int) + d = (e.2.1.1 : Int)) && decide (offs.toList.map (fun q => (pc : Int) + q) = e.2.2.2.map (fun t : Nat => (t : Int)))
  | .lookupswitch d ps => decide ((pc : Int) + d = (e.2.1.1 : Int)) && (decide (ps.toList.map (fun q => (pc : Int) + q.2) = e.2.2.2.map (fun t : Nat => (t : Int))) && (ps.toList.zip (ps.toList.drop 1)).all (fun (a, next) => a.1 < next.1))
  | _ => true
def chkC (o i : Nat) (e : XI) : Bool := bif Nat.beq (e.2.2.2.headD 9) 4 then decide ((o, e) ∈ LXl) else decide ((o, (i, (e.2.2.2.headD 9, e.2.1))) ∈ LCl) && decide (e = (xins (e.2.2.2.headD 9) i, (e.2.1, ([], [e.2.2.2.headD 9]))))
def chkL (o mid ini pc : Nat) (e : XI) : Bool := match e.1 with
  | .getfield i => bif Nat.beq (e.2.2.2.headD 9) 4 then decide ((o, e) ∈ LXl) else decide ((o, (i, e.2.1)) ∈ LFl)
  | .putfield i => decide ((ini, (o, (i, (e.2.1.1, (e.2.1.2, e.2.2.2.headD 9))))) ∈ LPl)
  | .getstatic i => match e.2.2.1 with
    | [.ref r] => decide ((o, (i, r)) ∈ LSl)
    | _ => false
  | .new i => match xthr e with
    | some _ => decide ((mid, (pc, e.2.1.1)) ∈ LTl) && Nat.blt e.2.1.1 6
    | none => decide ((o, (i, e.2.1)) ∈ LNl) && decide (e.2.2.1 = xdf e.2.1.1)
  | .newarray t => match t with
    | .int | .long | .char | .double => true
    | _ => false
  | .anewarray i => decide ((o, (i, e.2.1.1)) ∈ LQl)
  | .multianewarray i _ => decide ((o, i) ∈ LMl)
  | .invokevirtual i => chkC o i e
  | .invokestatic i => chkC o i e
  | .invokespecial i => chkC o i e
  | _ => true
def chkE (bytes : ByteArray) (o mid ini : Nat) (q : Nat × XI) : Bool := decide (decode bytes q.1 = .ok (q.2.1, xle q.2)) && (chkF o q.2 q.1 && chkL o mid ini q.1 q.2)
/-- the words that only the start can say: statics, throws -/
def xDyn (s0 : State) (sa : Nat → Nat) : Prop := (∀ q ∈ LSl, xokS s0 Gw Gn sa (xown q.1) q.2.1 (.ref q.2.2)) ∧ (∀ q ∈ LTl, xokT s0 xM (xM.1 q.1).cls q.1 q.2.1 q.2.2) ∧ ∃ A : Array Value, ∀ w ∈ lw_tbl, w.before A s0 = true
def xokX0 (own : String) (e : XI) : Prop := ∃ o, (o, e) ∈ LXl ∧ own = xown o
theorem xfind_mem : ∀ (l : List (Nat × XI)) (pc : Nat) (e : XI), xfind l pc = some e → (pc, e) ∈ l
  | [], _, _, h => by cases h
  | q :: r, pc, e, h => by
    unfold xfind at h
    cases hb : Nat.beq q.1 pc with
    | true =>
      rw [hb] at h
      have e1 := Nat.eq_of_beq_eq_true hb
      have e2 : q.2 = e := Option.some.inj h
      obtain ⟨a, b⟩ := q
      cases e1; cases e2
      exact List.mem_cons_self
    | false =>
      rw [hb] at h
      exact List.mem_cons_of_mem _ (xfind_mem r pc e h)
theorem chkF_ok {o pc : Nat} {e : XI} (h : chkF o e pc = true) : xokF Gw (xown o) e pc := by
  obtain ⟨i, ⟨a, b⟩, vs, ts⟩ := e
  cases i
  case iconst n => exact of_decide_eq_true h
  case bipush n => exact of_decide_eq_true h
  case sipush n => exact of_decide_eq_true h
  case lconst n => exact of_decide_eq_true h
  case iinc j n => exact of_decide_eq_true h
  case ldc j =>
    have h : (match vs with | [.int x] => decide ((o, (j, x)) ∈ LKl) | _ => false) = true := h
    show ∃ x, vs = [.int x] ∧ Cond.constant (xown o) j x ∈ Gw
    split at h
    · rename_i x
      exact ⟨x, rfl, LKl_ok _ (of_decide_eq_true h)⟩
    · cases h
  case ldc_w j =>
    have h : (match vs with | [.int x] => decide ((o, (j, x)) ∈ LKl) | _ => false) = true := h
    show ∃ x, vs = [.int x] ∧ Cond.constant (xown o) j x ∈ Gw
    split at h
    · rename_i x
      exact ⟨x, rfl, LKl_ok _ (of_decide_eq_true h)⟩
    · cases h
  case ldc2_w j =>
    have h : (match vs with | [.long x] => decide ((o, (j, x)) ∈ LLl) | _ => false) = true := h
    show ∃ x, vs = [.long x] ∧ Cond.constantLong (xown o) j x ∈ Gw
    split at h
    · rename_i x
      exact ⟨x, rfl, LLl_ok _ (of_decide_eq_true h)⟩
    · cases h
  case goto d => exact of_decide_eq_true h
  case ifCond k d => exact of_decide_eq_true h
  case if_icmp k d => exact of_decide_eq_true h
  case if_acmp k d => exact of_decide_eq_true h
  case ifnull d => exact of_decide_eq_true h
  case ifnonnull d => exact of_decide_eq_true h
  case tableswitch d lo hi offs =>
    obtain ⟨h1, h2⟩ := Bool.and_eq_true_iff.mp h
    exact ⟨of_decide_eq_true h1, of_decide_eq_true h2⟩
  case lookupswitch d ps =>
    obtain ⟨h1, h2⟩ := Bool.and_eq_true_iff.mp h
    obtain ⟨h3, h4⟩ := Bool.and_eq_true_iff.mp h2
    exact ⟨of_decide_eq_true h1, of_decide_eq_true h3, h4⟩
  all_goals exact True.intro
theorem chkC_ok {o i : Nat} {e : XI} (h : chkC o i e = true) : xokC xT xM xcl Gw Gn xokX0 (xown o) e ∧ (e.2.2.2.headD 9 < 4 → True) := by
  refine ⟨?_, fun _ => trivial⟩
  unfold chkC at h
  cases hb : Nat.beq (e.2.2.2.headD 9) 4 with
  | true =>
    rw [hb] at h
    have e4 := Nat.eq_of_beq_eq_true hb
    unfold xokC
    rw [e4]
    exact ⟨o, of_decide_eq_true h, rfl⟩
  | false =>
    rw [hb] at h
    obtain ⟨h1, h2⟩ := Bool.and_eq_true_iff.mp h
    have h3 := LCl_ok _ (of_decide_eq_true h1)
    have h4 := of_decide_eq_true h2
    have hne : e.2.2.2.headD 9 ≠ 4 := fun z => by rw [z] at hb; cases hb
    generalize hk : e.2.2.2.headD 9 = k at h3 h4 hne
    obtain ⟨j, ⟨a, b⟩, vs, ts⟩ := e
    have h4 : (j, ((a, b), (vs, ts))) = (xins k i, ((a, b), ([], [k]))) := h4
    rw [h4]
    have h3 : xokC xT xM xcl Gw Gn (fun _ _ => True) (xown o) (xins k i, ((a, b), ([], [k]))) := h3
    unfold xokC at h3 ⊢
    match k, hne, h3 with
    | 0, _, h3 => exact h3
    | 1, _, h3 => exact h3
    | 2, _, h3 => exact h3
    | 3, _, h3 => exact h3
    | 5, _, h3 => exact h3
    | k + 6, _, h3 => exact h3
/-- what xAll asks of a row -/
def xRow (s0 : State) (sa : Nat → Nat) (mid pc : Nat) (e : XI) : Prop := decode (xM.2.1 mid) pc = .ok (e.1, xle e) ∧ xokF Gw (xM.1 mid).cls e pc ∧ (xthr e = none → xokH s0 xcl Gw Gn sa (xM.1 mid).cls (xM.1 mid).name e) ∧ (∀ q, ∀ st, xcall e st = some q → xokC xT xM xcl Gw Gn xokX0 (xM.1 mid).cls e) ∧ (∀ E, xthr e = some E → E < 6 ∧ xokT s0 xM (xM.1 mid).cls mid pc E)
theorem chk_ok {s0 : State} {sa : Nat → Nat} (hy : xDyn s0 sa) {bytes : ByteArray} {o mid ini : Nat} {l : List (Nat × XI)} (h : l.all (fun q => chkE bytes o mid ini q) = true) (hb : xM.2.1 mid = bytes) (ho : (xM.1 mid).cls = xown o) (hi : ini = 1 → (xM.1 mid).name = "<init>") : ∀ pc e, xfind l pc = some e → xRow s0 sa mid pc e := by
  intro pc e he
  obtain ⟨hS, hT, A, hts⟩ := hy
  have h1 := List.all_eq_true.mp h _ (xfind_mem l pc e he)
  obtain ⟨c1, c2⟩ := Bool.and_eq_true_iff.mp h1
  obtain ⟨c3, c4⟩ := Bool.and_eq_true_iff.mp c2
  have c4 : chkL o mid ini pc e = true := c4
  refine ⟨by rw [hb]; exact of_decide_eq_true c1, by rw [ho]; exact chkF_ok c3, ?_, ?_, ?_⟩
  · intro ht
    rw [ho]
    obtain ⟨i, ⟨a, b⟩, vs, ts⟩ := e
    cases i
    case getfield j =>
      intro hne
      have c4 : (bif Nat.beq (ts.headD 9) 4 then decide ((o, ((.getfield j, ((a, b), (vs, ts))) : XI)) ∈ LXl) else decide ((o, (j, (a, b))) ∈ LFl)) = true := c4
      cases hq : Nat.beq (ts.headD 9) 4 with
      | true => exact absurd (Nat.eq_of_beq_eq_true hq) hne
      | false =>
        rw [hq] at c4
        exact LFl_ok _ (of_decide_eq_true c4)
    case putfield j => exact LPl_ok _ (of_decide_eq_true c4) _ hi
    case getstatic j =>
      intro v hv
      have hv : vs = [v] := hv
      subst hv
      have c4 : (match ([v] : List Value) with | [.ref r] => decide ((o, (j, r)) ∈ LSl) | _ => false) = true := c4
      cases v with
      | ref r => exact hS _ (of_decide_eq_true c4)
      | _ => cases c4
    case new j =>
      have c4 : (match xthr (.new j, ((a, b), (vs, ts))) with
    | some _ => decide ((mid, (pc, a)) ∈ LTl) && Nat.blt a 6
    | none => decide ((o, (j, (a, b))) ∈ LNl) && decide (vs = xdf a)) = true := c4
      rw [ht] at c4
      obtain ⟨d1, d2⟩ := Bool.and_eq_true_iff.mp c4
      have d2 : vs = xdf a := of_decide_eq_true d2
      subst d2
      exact LNl_ok _ (of_decide_eq_true d1)
    case newarray t =>
      cases t <;> first | exact ac_int | exact ac_long | exact ac_char | exact ac_double | cases c4
    case anewarray j =>
      obtain ⟨r, r1, r2, r3⟩ := LQl_ok _ (of_decide_eq_true c4)
      exact ⟨r, r1, r2, va_AO.of (hts _ r3)⟩
    case multianewarray j d =>
      obtain ⟨r1, r2, r3⟩ := LMl_ok _ (of_decide_eq_true c4)
      exact ⟨r1, r2, (hts _ r3 : (Cond.arrayOver (.array .long)).before A s0 = true) |> fun z => va_tabs rfl rfl z, trivial⟩
    all_goals exact True.intro
  · intro q st hq
    rw [ho]
    obtain ⟨i, ⟨a, b⟩, vs, ts⟩ := e
    cases i
    case invokevirtual j => exact (chkC_ok c4).1
    case invokestatic j => exact (chkC_ok c4).1
    case invokespecial j => exact (chkC_ok c4).1
    case getfield j =>
      have c4 : (bif Nat.beq (ts.headD 9) 4 then decide ((o, ((.getfield j, ((a, b), (vs, ts))) : XI)) ∈ LXl) else decide ((o, (j, (a, b))) ∈ LFl)) = true := c4
      have hq : (bif Nat.beq (ts.headD 9) 4 then (xcut (.getfield j, ((a, b), (vs, ts))) st).map (fun q => (ts.headD 9, q)) else none) = some q := hq
      cases hq9 : Nat.beq (ts.headD 9) 4 with
      | false => rw [hq9] at hq; cases hq
      | true =>
        rw [hq9] at c4
        unfold xokC
        rw [show (((.getfield j, ((a, b), (vs, ts))) : XI).2.2.2.headD 9) = 4 from Nat.eq_of_beq_eq_true hq9]
        exact ⟨o, of_decide_eq_true c4, rfl⟩
    all_goals cases hq
  · intro E hE
    obtain ⟨i, ⟨a, b⟩, vs, ts⟩ := e
    cases i
    case new j =>
      have c4 : (match xthr (.new j, ((a, b), (vs, ts))) with
    | some _ => decide ((mid, (pc, a)) ∈ LTl) && Nat.blt a 6
    | none => decide ((o, (j, (a, b))) ∈ LNl) && decide (vs = xdf a)) = true := c4
      rw [hE] at c4
      obtain ⟨d1, d2⟩ := Bool.and_eq_true_iff.mp c4
      have hEa : E = a := by
        unfold xthr at hE
        dsimp only at hE
        split at hE
        · exact (Option.some.inj hE).symm
        · cases hE
      subst hEa
      exact ⟨xlt d2, hT _ (of_decide_eq_true d1)⟩
    all_goals cases hE
set_option maxRecDepth 100000 in
theorem ck_0 : k_0.all (fun q => chkE cX1_init 0 0 1 q) = true := by decide +kernel
set_option maxRecDepth 100000 in
theorem ck_1 : k_1.all (fun q => chkE cX1_clear 0 1 0 q) = true := by decide +kernel
set_option maxRecDepth 100000 in
theorem ck_2 : k_2.all (fun q => chkE cX1_takeFrom 0 2 0 q) = true := by decide +kernel
set_option maxRecDepth 100000 in
theorem ck_3 : k_3.all (fun q => chkE cX1_add 0 3 0 q) = true := by decide +kernel
set_option maxRecDepth 100000 in
theorem ck_4 : k_4.all (fun q => chkE cX1_sizeOf 0 4 0 q) = true := by decide +kernel
set_option maxRecDepth 100000 in
theorem ck_5 : k_5.all (fun q => chkE cX1_hitsOf 0 5 0 q) = true := by decide +kernel
set_option maxRecDepth 100000 in
theorem ck_6 : k_6.all (fun q => chkE cX1_totalSize 0 6 0 q) = true := by decide +kernel
set_option maxRecDepth 100000 in
theorem ck_7 : k_7.all (fun q => chkE cX1_totalHits 0 7 0 q) = true := by decide +kernel
set_option maxRecDepth 100000 in
theorem ck_8 : k_8.all (fun q => chkE cX1_totalError 0 8 0 q) = true := by decide +kernel
set_option maxRecDepth 100000 in
theorem ck_9 : k_9.all (fun q => chkE cX1_sumOf 0 9 0 q) = true := by decide +kernel
set_option maxRecDepth 100000 in
theorem ck_10 : k_10.all (fun q => chkE cX2_init 1 10 1 q) = true := by decide +kernel
set_option maxRecDepth 100000 in
theorem ck_11 : k_11.all (fun q => chkE cX2_takeFrom 1 11 0 q) = true := by decide +kernel
set_option maxRecDepth 100000 in
theorem ck_12 : k_12.all (fun q => chkE cX2_hasPlayer 1 12 0 q) = true := by decide +kernel
set_option maxRecDepth 100000 in
theorem ck_13 : k_13.all (fun q => chkE cX2_placeOf 1 13 0 q) = true := by decide +kernel
set_option maxRecDepth 100000 in
theorem ck_14 : k_14.all (fun q => chkE cX2_joinFault 1 14 0 q) = true := by decide +kernel
set_option maxRecDepth 100000 in
theorem ck_15 : k_15.all (fun q => chkE cX2_join 1 15 0 q) = true := by decide +kernel
set_option maxRecDepth 100000 in
theorem ck_16 : k_16.all (fun q => chkE cX2_askFault 1 16 0 q) = true := by decide +kernel
set_option maxRecDepth 100000 in
theorem ck_17 : k_17.all (fun q => chkE cX2_ask 1 17 0 q) = true := by decide +kernel
set_option maxRecDepth 100000 in
theorem ck_18 : k_18.all (fun q => chkE cX2_betFault 1 18 0 q) = true := by decide +kernel
set_option maxRecDepth 100000 in
theorem ck_19 : k_19.all (fun q => chkE cX2_bet 1 19 0 q) = true := by decide +kernel
set_option maxRecDepth 100000 in
theorem ck_20 : k_20.all (fun q => chkE cX2_settleFault 1 20 0 q) = true := by decide +kernel
set_option maxRecDepth 100000 in
theorem ck_21 : k_21.all (fun q => chkE cX2_settleFirst 1 21 0 q) = true := by decide +kernel
set_option maxRecDepth 100000 in
theorem ck_22 : k_22.all (fun q => chkE cX2_payOut 1 22 0 q) = true := by decide +kernel
set_option maxRecDepth 100000 in
theorem ck_23 : k_23.all (fun q => chkE cX2_keepTruth 1 23 0 q) = true := by decide +kernel
set_option maxRecDepth 100000 in
theorem ck_24 : k_24.all (fun q => chkE cX2_moveFirstToEnd 1 24 0 q) = true := by decide +kernel
set_option maxRecDepth 100000 in
theorem ck_25 : k_25.all (fun q => chkE cX2_postponeFault 1 25 0 q) = true := by decide +kernel
set_option maxRecDepth 100000 in
theorem ck_26 : k_26.all (fun q => chkE cX2_postponeFirst 1 26 0 q) = true := by decide +kernel
set_option maxRecDepth 100000 in
theorem ck_27 : k_27.all (fun q => chkE cX2_leaveFault 1 27 0 q) = true := by decide +kernel
set_option maxRecDepth 100000 in
theorem ck_28 : k_28.all (fun q => chkE cX2_leave 1 28 0 q) = true := by decide +kernel
set_option maxRecDepth 100000 in
theorem ck_29 : k_29.all (fun q => chkE cX2_sumOfStakes 1 29 0 q) = true := by decide +kernel
set_option maxRecDepth 100000 in
theorem ck_30 : k_30.all (fun q => chkE cX2_sumOfPlayersBins 1 30 0 q) = true := by decide +kernel
set_option maxRecDepth 100000 in
theorem ck_31 : k_31.all (fun q => chkE cX2_leastError 1 31 0 q) = true := by decide +kernel
set_option maxRecDepth 100000 in
theorem ck_32 : k_32.all (fun q => chkE cX2_rankByScore 1 32 0 q) = true := by decide +kernel
set_option maxRecDepth 100000 in
theorem ck_33 : k_33.all (fun q => chkE cX2_keepsCoins 1 33 0 q) = true := by decide +kernel
set_option maxRecDepth 100000 in
theorem ck_34 : k_34.all (fun q => chkE cX2_binsAgree 1 34 0 q) = true := by decide +kernel
set_option maxRecDepth 100000 in
theorem ck_35 : k_35.all (fun q => chkE cX4_init 2 35 1 q) = true := by decide +kernel
set_option maxRecDepth 100000 in
theorem ck_36 : k_36.all (fun q => chkE cX4_isFull 2 36 0 q) = true := by decide +kernel
set_option maxRecDepth 100000 in
theorem ck_37 : k_37.all (fun q => chkE cX4_append 2 37 0 q) = true := by decide +kernel
set_option maxRecDepth 100000 in
theorem ck_38 : k_38.all (fun q => chkE cX4_clear 2 38 0 q) = true := by decide +kernel
set_option maxRecDepth 100000 in
theorem ck_39 : k_39.all (fun q => chkE cX4_rewind 2 39 0 q) = true := by decide +kernel
set_option maxRecDepth 100000 in
theorem ck_40 : k_40.all (fun q => chkE cX4_position 2 40 0 q) = true := by decide +kernel
set_option maxRecDepth 100000 in
theorem ck_41 : k_41.all (fun q => chkE cX4_number 2 41 0 q) = true := by decide +kernel
set_option maxRecDepth 100000 in
theorem ck_42 : k_42.all (fun q => chkE cX4_countCommands 2 42 0 q) = true := by decide +kernel
set_option maxRecDepth 100000 in
theorem ck_43 : k_43.all (fun q => chkE cX4_readCommand 2 43 0 q) = true := by decide +kernel
set_option maxRecDepth 100000 in
theorem ck_44 : k_44.all (fun q => chkE cX4_readSign 2 44 0 q) = true := by decide +kernel
set_option maxRecDepth 100000 in
theorem ck_45 : k_45.all (fun q => chkE cX4_readForm 2 45 0 q) = true := by decide +kernel
set_option maxRecDepth 100000 in
theorem ck_46 : k_46.all (fun q => chkE cX4_readNumber 2 46 0 q) = true := by decide +kernel
set_option maxRecDepth 100000 in
theorem ck_47 : k_47.all (fun q => chkE cX4_isDigit 2 47 0 q) = true := by decide +kernel
set_option maxRecDepth 100000 in
theorem ck_48 : k_48.all (fun q => chkE cX5_init 3 48 1 q) = true := by decide +kernel
set_option maxRecDepth 100000 in
theorem ck_49 : k_49.all (fun q => chkE cX5_mostByBitSets 3 49 0 q) = true := by decide +kernel
set_option maxRecDepth 100000 in
theorem ck_50 : k_50.all (fun q => chkE cX5_countCovered 3 50 0 q) = true := by decide +kernel
set_option maxRecDepth 100000 in
theorem ck_51 : k_51.all (fun q => chkE cX5_mostBySweep 3 51 0 q) = true := by decide +kernel
set_option maxRecDepth 100000 in
theorem ck_52 : k_52.all (fun q => chkE cX5_fillSets 3 52 0 q) = true := by decide +kernel
set_option maxRecDepth 100000 in
theorem ck_53 : k_53.all (fun q => chkE cX5_addInterval 3 53 0 q) = true := by decide +kernel
set_option maxRecDepth 100000 in
theorem ck_54 : k_54.all (fun q => chkE cX5_intervalBits 3 54 0 q) = true := by decide +kernel
set_option maxRecDepth 100000 in
theorem ck_55 : k_55.all (fun q => chkE cX5_leastOf 3 55 0 q) = true := by decide +kernel
set_option maxRecDepth 100000 in
theorem ck_56 : k_56.all (fun q => chkE cX5_insertSorted 3 56 0 q) = true := by decide +kernel
set_option maxRecDepth 100000 in
theorem ck_57 : k_57.all (fun q => chkE cX6_init 4 57 1 q) = true := by decide +kernel
set_option maxRecDepth 100000 in
theorem ck_58 : k_58.all (fun q => chkE cX6_fill 4 58 0 q) = true := by decide +kernel
set_option maxRecDepth 100000 in
theorem ck_59 : k_59.all (fun q => chkE cX6_takeFrom 4 59 0 q) = true := by decide +kernel
set_option maxRecDepth 100000 in
theorem ck_60 : k_60.all (fun q => chkE cX6_covers 4 60 0 q) = true := by decide +kernel
set_option maxRecDepth 100000 in
theorem ck_61 : k_61.all (fun q => chkE cX6_prize 4 61 0 q) = true := by decide +kernel
set_option maxRecDepth 100000 in
theorem ck_62 : k_62.all (fun q => chkE cX6_pointsFor 4 62 0 q) = true := by decide +kernel
set_option maxRecDepth 100000 in
theorem ck_63 : k_63.all (fun q => chkE cX6_distanceTo 4 63 0 q) = true := by decide +kernel
set_option maxRecDepth 100000 in
theorem ck_64 : k_64.all (fun q => chkE cX8_init 5 64 1 q) = true := by decide +kernel
set_option maxRecDepth 100000 in
theorem ck_65 : k_65.all (fun q => chkE cX8_draft 5 65 0 q) = true := by decide +kernel
set_option maxRecDepth 100000 in
theorem ck_66 : k_66.all (fun q => chkE cX8_keep 5 66 0 q) = true := by decide +kernel
set_option maxRecDepth 100000 in
theorem ck_67 : k_67.all (fun q => chkE cX8_record 5 67 0 q) = true := by decide +kernel
set_option maxRecDepth 100000 in
theorem ck_68 : k_68.all (fun q => chkE cX8_takeBack 5 68 0 q) = true := by decide +kernel
set_option maxRecDepth 100000 in
theorem ck_69 : k_69.all (fun q => chkE cX8_stepBack 5 69 0 q) = true := by decide +kernel
set_option maxRecDepth 100000 in
theorem ck_70 : k_70.all (fun q => chkE cX8_clear 5 70 0 q) = true := by decide +kernel
set_option maxRecDepth 100000 in
theorem ck_71 : k_71.all (fun q => chkE cX9_init 6 71 1 q) = true := by decide +kernel
set_option maxRecDepth 100000 in
theorem ck_72 : k_72.all (fun q => chkE cX9_start 6 72 0 q) = true := by decide +kernel
set_option maxRecDepth 100000 in
theorem ck_73 : k_73.all (fun q => chkE cX9_takeFrom 6 73 0 q) = true := by decide +kernel
set_option maxRecDepth 100000 in
theorem ck_74 : k_74.all (fun q => chkE cX9_isBetterThan 6 74 0 q) = true := by decide +kernel
set_option maxRecDepth 100000 in
theorem ck_75 : k_75.all (fun q => chkE cX10_init 7 75 1 q) = true := by decide +kernel
set_option maxRecDepth 100000 in
theorem ck_76 : k_76.all (fun q => chkE cX10_start 7 76 0 q) = true := by decide +kernel
set_option maxRecDepth 100000 in
theorem ck_77 : k_77.all (fun q => chkE cX10_takeFrom 7 77 0 q) = true := by decide +kernel
set_option maxRecDepth 100000 in
theorem ck_78 : k_78.all (fun q => chkE cX10_rankOf 7 78 0 q) = true := by decide +kernel
set_option maxRecDepth 100000 in
theorem ck_79 : k_79.all (fun q => chkE cX10_addEstimate 7 79 0 q) = true := by decide +kernel
set_option maxRecDepth 100000 in
theorem ck_80 : k_80.all (fun q => chkE cX10_removeEstimate 7 80 0 q) = true := by decide +kernel
set_option maxRecDepth 100000 in
theorem ck_81 : k_81.all (fun q => chkE cX10_countCovering 7 81 0 q) = true := by decide +kernel
set_option maxRecDepth 100000 in
theorem ck_82 : k_82.all (fun q => chkE cX10_sumOfStakes 7 82 0 q) = true := by decide +kernel
set_option maxRecDepth 100000 in
theorem ck_83 : k_83.all (fun q => chkE cX11_init 8 83 1 q) = true := by decide +kernel
set_option maxRecDepth 100000 in
theorem ck_84 : k_84.all (fun q => chkE cX11_addPlayer 8 84 0 q) = true := by decide +kernel
set_option maxRecDepth 100000 in
theorem ck_85 : k_85.all (fun q => chkE cX11_openQuestion 8 85 0 q) = true := by decide +kernel
set_option maxRecDepth 100000 in
theorem ck_86 : k_86.all (fun q => chkE cX11_estimate 8 86 0 q) = true := by decide +kernel
set_option maxRecDepth 100000 in
theorem ck_87 : k_87.all (fun q => chkE cX11_settle 8 87 0 q) = true := by decide +kernel
set_option maxRecDepth 100000 in
theorem ck_88 : k_88.all (fun q => chkE cX11_postpone 8 88 0 q) = true := by decide +kernel
set_option maxRecDepth 100000 in
theorem ck_89 : k_89.all (fun q => chkE cX11_withdraw 8 89 0 q) = true := by decide +kernel
set_option maxRecDepth 100000 in
theorem ck_90 : k_90.all (fun q => chkE cX11_playerCount 8 90 0 q) = true := by decide +kernel
set_option maxRecDepth 100000 in
theorem ck_91 : k_91.all (fun q => chkE cX11_coins 8 91 0 q) = true := by decide +kernel
set_option maxRecDepth 100000 in
theorem ck_92 : k_92.all (fun q => chkE cX11_hasWithdrawn 8 92 0 q) = true := by decide +kernel
set_option maxRecDepth 100000 in
theorem ck_93 : k_93.all (fun q => chkE cX11_houseCoins 8 93 0 q) = true := by decide +kernel
set_option maxRecDepth 100000 in
theorem ck_94 : k_94.all (fun q => chkE cX11_stakedCoins 8 94 0 q) = true := by decide +kernel
set_option maxRecDepth 100000 in
theorem ck_95 : k_95.all (fun q => chkE cX11_openCount 8 95 0 q) = true := by decide +kernel
set_option maxRecDepth 100000 in
theorem ck_96 : k_96.all (fun q => chkE cX11_questionAt 8 96 0 q) = true := by decide +kernel
set_option maxRecDepth 100000 in
theorem ck_97 : k_97.all (fun q => chkE cX11_positionOf 8 97 0 q) = true := by decide +kernel
set_option maxRecDepth 100000 in
theorem ck_98 : k_98.all (fun q => chkE cX11_weight 8 98 0 q) = true := by decide +kernel
set_option maxRecDepth 100000 in
theorem ck_99 : k_99.all (fun q => chkE cX11_estimateCount 8 99 0 q) = true := by decide +kernel
set_option maxRecDepth 100000 in
theorem ck_100 : k_100.all (fun q => chkE cX11_estimator 8 100 0 q) = true := by decide +kernel
set_option maxRecDepth 100000 in
theorem ck_101 : k_101.all (fun q => chkE cX11_hasEstimate 8 101 0 q) = true := by decide +kernel
set_option maxRecDepth 100000 in
theorem ck_102 : k_102.all (fun q => chkE cX11_low 8 102 0 q) = true := by decide +kernel
set_option maxRecDepth 100000 in
theorem ck_103 : k_103.all (fun q => chkE cX11_high 8 103 0 q) = true := by decide +kernel
set_option maxRecDepth 100000 in
theorem ck_104 : k_104.all (fun q => chkE cX11_confidence 8 104 0 q) = true := by decide +kernel
set_option maxRecDepth 100000 in
theorem ck_105 : k_105.all (fun q => chkE cX11_stake 8 105 0 q) = true := by decide +kernel
set_option maxRecDepth 100000 in
theorem ck_106 : k_106.all (fun q => chkE cX11_winnings 8 106 0 q) = true := by decide +kernel
set_option maxRecDepth 100000 in
theorem ck_107 : k_107.all (fun q => chkE cX11_coverage 8 107 0 q) = true := by decide +kernel
set_option maxRecDepth 100000 in
theorem ck_108 : k_108.all (fun q => chkE cX11_mostCovered 8 108 0 q) = true := by decide +kernel
set_option maxRecDepth 100000 in
theorem ck_109 : k_109.all (fun q => chkE cX11_mostCoveredBySweep 8 109 0 q) = true := by decide +kernel
set_option maxRecDepth 100000 in
theorem ck_110 : k_110.all (fun q => chkE cX11_coveredValues 8 110 0 q) = true := by decide +kernel
set_option maxRecDepth 100000 in
theorem ck_111 : k_111.all (fun q => chkE cX11_settledQuestions 8 111 0 q) = true := by decide +kernel
set_option maxRecDepth 100000 in
theorem ck_112 : k_112.all (fun q => chkE cX11_recentTruth 8 112 0 q) = true := by decide +kernel
set_option maxRecDepth 100000 in
theorem ck_113 : k_113.all (fun q => chkE cX11_settledEstimates 8 113 0 q) = true := by decide +kernel
set_option maxRecDepth 100000 in
theorem ck_114 : k_114.all (fun q => chkE cX11_hits 8 114 0 q) = true := by decide +kernel
set_option maxRecDepth 100000 in
theorem ck_115 : k_115.all (fun q => chkE cX11_score 8 115 0 q) = true := by decide +kernel
set_option maxRecDepth 100000 in
theorem ck_116 : k_116.all (fun q => chkE cX11_meanScore 8 116 0 q) = true := by decide +kernel
set_option maxRecDepth 100000 in
theorem ck_117 : k_117.all (fun q => chkE cX11_calibrationError 8 117 0 q) = true := by decide +kernel
set_option maxRecDepth 100000 in
theorem ck_118 : k_118.all (fun q => chkE cX11_bestCalibrated 8 118 0 q) = true := by decide +kernel
set_option maxRecDepth 100000 in
theorem ck_119 : k_119.all (fun q => chkE cX11_playerByScore 8 119 0 q) = true := by decide +kernel
set_option maxRecDepth 100000 in
theorem ck_120 : k_120.all (fun q => chkE cX11_binSize 8 120 0 q) = true := by decide +kernel
set_option maxRecDepth 100000 in
theorem ck_121 : k_121.all (fun q => chkE cX11_binSizeByPlayers 8 121 0 q) = true := by decide +kernel
set_option maxRecDepth 100000 in
theorem ck_122 : k_122.all (fun q => chkE cX11_binHits 8 122 0 q) = true := by decide +kernel
set_option maxRecDepth 100000 in
theorem ck_123 : k_123.all (fun q => chkE cX11_binShare 8 123 0 q) = true := by decide +kernel
set_option maxRecDepth 100000 in
theorem ck_124 : k_124.all (fun q => chkE cX11_isConsistent 8 124 0 q) = true := by decide +kernel
set_option maxRecDepth 100000 in
theorem ck_125 : k_125.all (fun q => chkE cX11_feed 8 125 0 q) = true := by decide +kernel
set_option maxRecDepth 100000 in
theorem ck_126 : k_126.all (fun q => chkE cX11_runCommands 8 126 0 q) = true := by decide +kernel
set_option maxRecDepth 100000 in
theorem ck_127 : k_127.all (fun q => chkE cX11_errorPosition 8 127 0 q) = true := by decide +kernel
set_option maxRecDepth 100000 in
theorem ck_128 : k_128.all (fun q => chkE cX11_failedCommand 8 128 0 q) = true := by decide +kernel
set_option maxRecDepth 100000 in
theorem ck_129 : k_129.all (fun q => chkE cX11_writeQuestion 8 129 0 q) = true := by decide +kernel
set_option maxRecDepth 100000 in
theorem ck_130 : k_130.all (fun q => chkE cX11_outputChar 8 130 0 q) = true := by decide +kernel
set_option maxRecDepth 100000 in
theorem ck_131 : k_131.all (fun q => chkE cX11_undoCount 8 131 0 q) = true := by decide +kernel
set_option maxRecDepth 100000 in
theorem ck_132 : k_132.all (fun q => chkE cX11_undo 8 132 0 q) = true := by decide +kernel
set_option maxRecDepth 100000 in
theorem ck_133 : k_133.all (fun q => chkE cX11_save 8 133 0 q) = true := by decide +kernel
set_option maxRecDepth 100000 in
theorem ck_134 : k_134.all (fun q => chkE cX11_restore 8 134 0 q) = true := by decide +kernel
set_option maxRecDepth 100000 in
theorem ck_135 : k_135.all (fun q => chkE cX11_refuseOn 8 135 0 q) = true := by decide +kernel
set_option maxRecDepth 100000 in
theorem ck_136 : k_136.all (fun q => chkE cX11_isValue 8 136 0 q) = true := by decide +kernel
set_option maxRecDepth 100000 in
theorem ck_137 : k_137.all (fun q => chkE cX11_isConfidence 8 137 0 q) = true := by decide +kernel
set_option maxRecDepth 100000 in
theorem ck_138 : k_138.all (fun q => chkE cX11_requireConfidence 8 138 0 q) = true := by decide +kernel
set_option maxRecDepth 100000 in
theorem ck_139 : k_139.all (fun q => chkE cX11_requirePlayer 8 139 0 q) = true := by decide +kernel
set_option maxRecDepth 100000 in
theorem ck_140 : k_140.all (fun q => chkE cX11_requireQuestion 8 140 0 q) = true := by decide +kernel
set_option maxRecDepth 100000 in
theorem ck_141 : k_141.all (fun q => chkE cX11_requireEstimatedQuestion 8 141 0 q) = true := by decide +kernel
set_option maxRecDepth 100000 in
theorem ck_142 : k_142.all (fun q => chkE cX11_requireEstimate 8 142 0 q) = true := by decide +kernel
set_option maxRecDepth 100000 in
theorem ck_143 : k_143.all (fun q => chkE cX11_mostCoveredAgree 8 143 0 q) = true := by decide +kernel
set_option maxRecDepth 100000 in
theorem ck_144 : k_144.all (fun q => chkE cX11_carryOut 8 144 0 q) = true := by decide +kernel
set_option maxRecDepth 100000 in
theorem ck_145 : k_145.all (fun q => chkE cX11_faultOf 8 145 0 q) = true := by decide +kernel
set_option maxRecDepth 100000 in
theorem ck_146 : k_146.all (fun q => chkE cX11_apply 8 146 0 q) = true := by decide +kernel
set_option maxRecDepth 100000 in
theorem ck_147 : k_147.all (fun q => chkE cX11_writeEstimate 8 147 0 q) = true := by decide +kernel
set_option maxRecDepth 100000 in
theorem ck_148 : k_148.all (fun q => chkE cX12_init 9 148 1 q) = true := by decide +kernel
set_option maxRecDepth 100000 in
theorem ck_149 : k_149.all (fun q => chkE cX12_thrown 9 149 0 q) = true := by decide +kernel
set_option maxRecDepth 100000 in
theorem ck_150 : k_150.all (fun q => chkE cX12_in 9 150 0 q) = true := by decide +kernel
set_option maxRecDepth 100000 in
theorem ck_151 : k_151.all (fun q => chkE cX12_size 9 151 0 q) = true := by decide +kernel
set_option maxRecDepth 100000 in
theorem ck_152 : k_152.all (fun q => chkE cX12_done 9 152 0 q) = true := by decide +kernel
set_option maxRecDepth 100000 in
theorem ck_153 : k_153.all (fun q => chkE cX12_fails 9 153 0 q) = true := by decide +kernel
set_option maxRecDepth 100000 in
theorem ck_154 : k_154.all (fun q => chkE cX12_copy 9 154 0 q) = true := by decide +kernel
set_option maxRecDepth 100000 in
theorem ck_155 : k_155.all (fun q => chkE cX12_begin 9 155 0 q) = true := by decide +kernel
set_option maxRecDepth 100000 in
theorem ck_156 : k_156.all (fun q => chkE cX12_kept 9 156 0 q) = true := by decide +kernel
set_option maxRecDepth 100000 in
theorem ck_157 : k_157.all (fun q => chkE cX12_isPlayer 9 157 0 q) = true := by decide +kernel
set_option maxRecDepth 100000 in
theorem ck_158 : k_158.all (fun q => chkE cX12_placeOf 9 158 0 q) = true := by decide +kernel
set_option maxRecDepth 100000 in
theorem ck_159 : k_159.all (fun q => chkE cX12_at 9 159 0 q) = true := by decide +kernel
set_option maxRecDepth 100000 in
theorem ck_160 : k_160.all (fun q => chkE cX12_rankOf 9 160 0 q) = true := by decide +kernel
set_option maxRecDepth 100000 in
theorem ck_161 : k_161.all (fun q => chkE cX12_addsPlayer 9 161 0 q) = true := by decide +kernel
set_option maxRecDepth 100000 in
theorem ck_162 : k_162.all (fun q => chkE cX12_addPlayer 9 162 0 q) = true := by decide +kernel
set_option maxRecDepth 100000 in
theorem ck_163 : k_163.all (fun q => chkE cX12_opens 9 163 0 q) = true := by decide +kernel
set_option maxRecDepth 100000 in
theorem ck_164 : k_164.all (fun q => chkE cX12_openQuestion 9 164 0 q) = true := by decide +kernel
set_option maxRecDepth 100000 in
theorem ck_165 : k_165.all (fun q => chkE cX12_areRight 9 165 0 q) = true := by decide +kernel
set_option maxRecDepth 100000 in
theorem ck_166 : k_166.all (fun q => chkE cX12_makes 9 166 0 q) = true := by decide +kernel
set_option maxRecDepth 100000 in
theorem ck_167 : k_167.all (fun q => chkE cX12_estimate 9 167 0 q) = true := by decide +kernel
set_option maxRecDepth 100000 in
theorem ck_168 : k_168.all (fun q => chkE cX12_prize 9 168 0 q) = true := by decide +kernel
set_option maxRecDepth 100000 in
theorem ck_169 : k_169.all (fun q => chkE cX12_settlesOne 9 169 0 q) = true := by decide +kernel
set_option maxRecDepth 100000 in
theorem ck_170 : k_170.all (fun q => chkE cX12_copyQuestion 9 170 0 q) = true := by decide +kernel
set_option maxRecDepth 100000 in
theorem ck_171 : k_171.all (fun q => chkE cX12_dropFirst 9 171 0 q) = true := by decide +kernel
set_option maxRecDepth 100000 in
theorem ck_172 : k_172.all (fun q => chkE cX12_settles 9 172 0 q) = true := by decide +kernel
set_option maxRecDepth 100000 in
theorem ck_173 : k_173.all (fun q => chkE cX12_settle 9 173 0 q) = true := by decide +kernel
set_option maxRecDepth 100000 in
theorem ck_174 : k_174.all (fun q => chkE cX12_postpones 9 174 0 q) = true := by decide +kernel
set_option maxRecDepth 100000 in
theorem ck_175 : k_175.all (fun q => chkE cX12_postpone 9 175 0 q) = true := by decide +kernel
set_option maxRecDepth 100000 in
theorem ck_176 : k_176.all (fun q => chkE cX12_removes 9 176 0 q) = true := by decide +kernel
set_option maxRecDepth 100000 in
theorem ck_177 : k_177.all (fun q => chkE cX12_withdraws 9 177 0 q) = true := by decide +kernel
set_option maxRecDepth 100000 in
theorem ck_178 : k_178.all (fun q => chkE cX12_withdraw 9 178 0 q) = true := by decide +kernel
set_option maxRecDepth 100000 in
theorem ck_179 : k_179.all (fun q => chkE cX12_playerCount 9 179 0 q) = true := by decide +kernel
set_option maxRecDepth 100000 in
theorem ck_180 : k_180.all (fun q => chkE cX12_coins 9 180 0 q) = true := by decide +kernel
set_option maxRecDepth 100000 in
theorem ck_181 : k_181.all (fun q => chkE cX12_hasWithdrawn 9 181 0 q) = true := by decide +kernel
set_option maxRecDepth 100000 in
theorem ck_182 : k_182.all (fun q => chkE cX12_houseCoins 9 182 0 q) = true := by decide +kernel
set_option maxRecDepth 100000 in
theorem ck_183 : k_183.all (fun q => chkE cX12_stakedCoins 9 183 0 q) = true := by decide +kernel
set_option maxRecDepth 100000 in
theorem ck_184 : k_184.all (fun q => chkE cX12_openCount 9 184 0 q) = true := by decide +kernel
set_option maxRecDepth 100000 in
theorem ck_185 : k_185.all (fun q => chkE cX12_questionAt 9 185 0 q) = true := by decide +kernel
set_option maxRecDepth 100000 in
theorem ck_186 : k_186.all (fun q => chkE cX12_positionOf 9 186 0 q) = true := by decide +kernel
set_option maxRecDepth 100000 in
theorem ck_187 : k_187.all (fun q => chkE cX12_weight 9 187 0 q) = true := by decide +kernel
set_option maxRecDepth 100000 in
theorem ck_188 : k_188.all (fun q => chkE cX12_estimateCount 9 188 0 q) = true := by decide +kernel
set_option maxRecDepth 100000 in
theorem ck_189 : k_189.all (fun q => chkE cX12_estimator 9 189 0 q) = true := by decide +kernel
set_option maxRecDepth 100000 in
theorem ck_190 : k_190.all (fun q => chkE cX12_hasEstimate 9 190 0 q) = true := by decide +kernel
set_option maxRecDepth 100000 in
theorem ck_191 : k_191.all (fun q => chkE cX12_hereOf 9 191 0 q) = true := by decide +kernel
set_option maxRecDepth 100000 in
theorem ck_192 : k_192.all (fun q => chkE cX12_field 9 192 0 q) = true := by decide +kernel
set_option maxRecDepth 100000 in
theorem ck_193 : k_193.all (fun q => chkE cX12_low 9 193 0 q) = true := by decide +kernel
set_option maxRecDepth 100000 in
theorem ck_194 : k_194.all (fun q => chkE cX12_high 9 194 0 q) = true := by decide +kernel
set_option maxRecDepth 100000 in
theorem ck_195 : k_195.all (fun q => chkE cX12_confidence 9 195 0 q) = true := by decide +kernel
set_option maxRecDepth 100000 in
theorem ck_196 : k_196.all (fun q => chkE cX12_stake 9 196 0 q) = true := by decide +kernel
set_option maxRecDepth 100000 in
theorem ck_197 : k_197.all (fun q => chkE cX12_winnings 9 197 0 q) = true := by decide +kernel
set_option maxRecDepth 100000 in
theorem ck_198 : k_198.all (fun q => chkE cX12_covering 9 198 0 q) = true := by decide +kernel
set_option maxRecDepth 100000 in
theorem ck_199 : k_199.all (fun q => chkE cX12_coverage 9 199 0 q) = true := by decide +kernel
set_option maxRecDepth 100000 in
theorem ck_200 : k_200.all (fun q => chkE cX12_mostCovered 9 200 0 q) = true := by decide +kernel
set_option maxRecDepth 100000 in
theorem ck_201 : k_201.all (fun q => chkE cX12_mostCoveredBySweep 9 201 0 q) = true := by decide +kernel
set_option maxRecDepth 100000 in
theorem ck_202 : k_202.all (fun q => chkE cX12_coveredValues 9 202 0 q) = true := by decide +kernel
set_option maxRecDepth 100000 in
theorem ck_203 : k_203.all (fun q => chkE cX12_settledQuestions 9 203 0 q) = true := by decide +kernel
set_option maxRecDepth 100000 in
theorem ck_204 : k_204.all (fun q => chkE cX12_recentTruth 9 204 0 q) = true := by decide +kernel
set_option maxRecDepth 100000 in
theorem ck_205 : k_205.all (fun q => chkE cX12_sumOf 9 205 0 q) = true := by decide +kernel
set_option maxRecDepth 100000 in
theorem ck_206 : k_206.all (fun q => chkE cX12_settledEstimates 9 206 0 q) = true := by decide +kernel
set_option maxRecDepth 100000 in
theorem ck_207 : k_207.all (fun q => chkE cX12_hits 9 207 0 q) = true := by decide +kernel
set_option maxRecDepth 100000 in
theorem ck_208 : k_208.all (fun q => chkE cX12_score 9 208 0 q) = true := by decide +kernel
set_option maxRecDepth 100000 in
theorem ck_209 : k_209.all (fun q => chkE cX12_meanScore 9 209 0 q) = true := by decide +kernel
set_option maxRecDepth 100000 in
theorem ck_210 : k_210.all (fun q => chkE cX12_errorOf 9 210 0 q) = true := by decide +kernel
set_option maxRecDepth 100000 in
theorem ck_211 : k_211.all (fun q => chkE cX12_calibrationError 9 211 0 q) = true := by decide +kernel
set_option maxRecDepth 100000 in
theorem ck_212 : k_212.all (fun q => chkE cX12_bestCalibrated 9 212 0 q) = true := by decide +kernel
set_option maxRecDepth 100000 in
theorem ck_213 : k_213.all (fun q => chkE cX12_isAhead 9 213 0 q) = true := by decide +kernel
set_option maxRecDepth 100000 in
theorem ck_214 : k_214.all (fun q => chkE cX12_playerByScore 9 214 0 q) = true := by decide +kernel
set_option maxRecDepth 100000 in
theorem ck_215 : k_215.all (fun q => chkE cX12_bin 9 215 0 q) = true := by decide +kernel
set_option maxRecDepth 100000 in
theorem ck_216 : k_216.all (fun q => chkE cX12_binSize 9 216 0 q) = true := by decide +kernel
set_option maxRecDepth 100000 in
theorem ck_217 : k_217.all (fun q => chkE cX12_binSizeByPlayers 9 217 0 q) = true := by decide +kernel
set_option maxRecDepth 100000 in
theorem ck_218 : k_218.all (fun q => chkE cX12_binHits 9 218 0 q) = true := by decide +kernel
set_option maxRecDepth 100000 in
theorem ck_219 : k_219.all (fun q => chkE cX12_binShare 9 219 0 q) = true := by decide +kernel
set_option maxRecDepth 100000 in
theorem ck_220 : k_220.all (fun q => chkE cX12_isConsistent 9 220 0 q) = true := by decide +kernel
set_option maxRecDepth 100000 in
theorem ck_221 : k_221.all (fun q => chkE cX12_feed 9 221 0 q) = true := by decide +kernel
set_option maxRecDepth 100000 in
theorem ck_222 : k_222.all (fun q => chkE cX12_here 9 222 0 q) = true := by decide +kernel
set_option maxRecDepth 100000 in
theorem ck_223 : k_223.all (fun q => chkE cX12_needs 9 223 0 q) = true := by decide +kernel
set_option maxRecDepth 100000 in
theorem ck_224 : k_224.all (fun q => chkE cX12_needsThree 9 224 0 q) = true := by decide +kernel
set_option maxRecDepth 100000 in
theorem ck_225 : k_225.all (fun q => chkE cX12_digits 9 225 0 q) = true := by decide +kernel
set_option maxRecDepth 100000 in
theorem ck_226 : k_226.all (fun q => chkE cX12_digitsAfter 9 226 0 q) = true := by decide +kernel
set_option maxRecDepth 100000 in
theorem ck_227 : k_227.all (fun q => chkE cX12_parsesBet 9 227 0 q) = true := by decide +kernel
set_option maxRecDepth 100000 in
theorem ck_228 : k_228.all (fun q => chkE cX12_parsesO 9 228 0 q) = true := by decide +kernel
set_option maxRecDepth 100000 in
theorem ck_229 : k_229.all (fun q => chkE cX12_parsesCommand 9 229 0 q) = true := by decide +kernel
set_option maxRecDepth 100000 in
theorem ck_230 : k_230.all (fun q => chkE cX12_carriesOut 9 230 0 q) = true := by decide +kernel
set_option maxRecDepth 100000 in
theorem ck_231 : k_231.all (fun q => chkE cX12_runCommands 9 231 0 q) = true := by decide +kernel
set_option maxRecDepth 100000 in
theorem ck_232 : k_232.all (fun q => chkE cX12_errorPosition 9 232 0 q) = true := by decide +kernel
set_option maxRecDepth 100000 in
theorem ck_233 : k_233.all (fun q => chkE cX12_failedCommand 9 233 0 q) = true := by decide +kernel
set_option maxRecDepth 100000 in
theorem ck_234 : k_234.all (fun q => chkE cX12_writes 9 234 0 q) = true := by decide +kernel
set_option maxRecDepth 100000 in
theorem ck_235 : k_235.all (fun q => chkE cX12_writesNumber 9 235 0 q) = true := by decide +kernel
set_option maxRecDepth 100000 in
theorem ck_236 : k_236.all (fun q => chkE cX12_writesAfter 9 236 0 q) = true := by decide +kernel
set_option maxRecDepth 100000 in
theorem ck_237 : k_237.all (fun q => chkE cX12_writeQuestion 9 237 0 q) = true := by decide +kernel
set_option maxRecDepth 100000 in
theorem ck_238 : k_238.all (fun q => chkE cX12_outputChar 9 238 0 q) = true := by decide +kernel
set_option maxRecDepth 100000 in
theorem ck_239 : k_239.all (fun q => chkE cX12_undoCount 9 239 0 q) = true := by decide +kernel
set_option maxRecDepth 100000 in
theorem ck_240 : k_240.all (fun q => chkE cX12_undo 9 240 0 q) = true := by decide +kernel
set_option maxRecDepth 100000 in
theorem ck_241 : k_241.all (fun q => chkE cX12_save 9 241 0 q) = true := by decide +kernel
set_option maxRecDepth 100000 in
theorem ck_242 : k_242.all (fun q => chkE cX12_restore 9 242 0 q) = true := by decide +kernel
set_option maxRecDepth 100000 in
theorem ck_243 : k_243.all (fun q => chkE cL_addPlayer 10 243 0 q) = true := by decide +kernel
set_option maxRecDepth 100000 in
theorem ck_244 : k_244.all (fun q => chkE cL_openQuestion 10 244 0 q) = true := by decide +kernel
set_option maxRecDepth 100000 in
theorem ck_245 : k_245.all (fun q => chkE cL_estimate 10 245 0 q) = true := by decide +kernel
set_option maxRecDepth 100000 in
theorem ck_246 : k_246.all (fun q => chkE cL_settle 10 246 0 q) = true := by decide +kernel
set_option maxRecDepth 100000 in
theorem ck_247 : k_247.all (fun q => chkE cL_postpone 10 247 0 q) = true := by decide +kernel
set_option maxRecDepth 100000 in
theorem ck_248 : k_248.all (fun q => chkE cL_withdraw 10 248 0 q) = true := by decide +kernel
set_option maxRecDepth 100000 in
theorem ck_249 : k_249.all (fun q => chkE cL_coins 10 249 0 q) = true := by decide +kernel
set_option maxRecDepth 100000 in
theorem ck_250 : k_250.all (fun q => chkE cL_hasWithdrawn 10 250 0 q) = true := by decide +kernel
set_option maxRecDepth 100000 in
theorem ck_251 : k_251.all (fun q => chkE cL_questionAt 10 251 0 q) = true := by decide +kernel
set_option maxRecDepth 100000 in
theorem ck_252 : k_252.all (fun q => chkE cL_positionOf 10 252 0 q) = true := by decide +kernel
set_option maxRecDepth 100000 in
theorem ck_253 : k_253.all (fun q => chkE cL_weight 10 253 0 q) = true := by decide +kernel
set_option maxRecDepth 100000 in
theorem ck_254 : k_254.all (fun q => chkE cL_estimateCount 10 254 0 q) = true := by decide +kernel
set_option maxRecDepth 100000 in
theorem ck_255 : k_255.all (fun q => chkE cL_estimator 10 255 0 q) = true := by decide +kernel
set_option maxRecDepth 100000 in
theorem ck_256 : k_256.all (fun q => chkE cL_hasEstimate 10 256 0 q) = true := by decide +kernel
set_option maxRecDepth 100000 in
theorem ck_257 : k_257.all (fun q => chkE cL_low 10 257 0 q) = true := by decide +kernel
set_option maxRecDepth 100000 in
theorem ck_258 : k_258.all (fun q => chkE cL_high 10 258 0 q) = true := by decide +kernel
set_option maxRecDepth 100000 in
theorem ck_259 : k_259.all (fun q => chkE cL_confidence 10 259 0 q) = true := by decide +kernel
set_option maxRecDepth 100000 in
theorem ck_260 : k_260.all (fun q => chkE cL_stake 10 260 0 q) = true := by decide +kernel
set_option maxRecDepth 100000 in
theorem ck_261 : k_261.all (fun q => chkE cL_winnings 10 261 0 q) = true := by decide +kernel
set_option maxRecDepth 100000 in
theorem ck_262 : k_262.all (fun q => chkE cL_coverage 10 262 0 q) = true := by decide +kernel
set_option maxRecDepth 100000 in
theorem ck_263 : k_263.all (fun q => chkE cL_mostCovered 10 263 0 q) = true := by decide +kernel
set_option maxRecDepth 100000 in
theorem ck_264 : k_264.all (fun q => chkE cL_mostCoveredBySweep 10 264 0 q) = true := by decide +kernel
set_option maxRecDepth 100000 in
theorem ck_265 : k_265.all (fun q => chkE cL_coveredValues 10 265 0 q) = true := by decide +kernel
set_option maxRecDepth 100000 in
theorem ck_266 : k_266.all (fun q => chkE cL_recentTruth 10 266 0 q) = true := by decide +kernel
set_option maxRecDepth 100000 in
theorem ck_267 : k_267.all (fun q => chkE cL_settledEstimates 10 267 0 q) = true := by decide +kernel
set_option maxRecDepth 100000 in
theorem ck_268 : k_268.all (fun q => chkE cL_hits 10 268 0 q) = true := by decide +kernel
set_option maxRecDepth 100000 in
theorem ck_269 : k_269.all (fun q => chkE cL_score 10 269 0 q) = true := by decide +kernel
set_option maxRecDepth 100000 in
theorem ck_270 : k_270.all (fun q => chkE cL_meanScore 10 270 0 q) = true := by decide +kernel
set_option maxRecDepth 100000 in
theorem ck_271 : k_271.all (fun q => chkE cL_calibrationError 10 271 0 q) = true := by decide +kernel
set_option maxRecDepth 100000 in
theorem ck_272 : k_272.all (fun q => chkE cL_bestCalibrated 10 272 0 q) = true := by decide +kernel
set_option maxRecDepth 100000 in
theorem ck_273 : k_273.all (fun q => chkE cL_playerByScore 10 273 0 q) = true := by decide +kernel
set_option maxRecDepth 100000 in
theorem ck_274 : k_274.all (fun q => chkE cL_binSize 10 274 0 q) = true := by decide +kernel
set_option maxRecDepth 100000 in
theorem ck_275 : k_275.all (fun q => chkE cL_binSizeByPlayers 10 275 0 q) = true := by decide +kernel
set_option maxRecDepth 100000 in
theorem ck_276 : k_276.all (fun q => chkE cL_binHits 10 276 0 q) = true := by decide +kernel
set_option maxRecDepth 100000 in
theorem ck_277 : k_277.all (fun q => chkE cL_binShare 10 277 0 q) = true := by decide +kernel
set_option maxRecDepth 100000 in
theorem ck_278 : k_278.all (fun q => chkE cL_feed 10 278 0 q) = true := by decide +kernel
set_option maxRecDepth 100000 in
theorem ck_279 : k_279.all (fun q => chkE cL_runCommands 10 279 0 q) = true := by decide +kernel
set_option maxRecDepth 100000 in
theorem ck_280 : k_280.all (fun q => chkE cL_errorPosition 10 280 0 q) = true := by decide +kernel
set_option maxRecDepth 100000 in
theorem ck_281 : k_281.all (fun q => chkE cL_failedCommand 10 281 0 q) = true := by decide +kernel
set_option maxRecDepth 100000 in
theorem ck_282 : k_282.all (fun q => chkE cL_writeQuestion 10 282 0 q) = true := by decide +kernel
set_option maxRecDepth 100000 in
theorem ck_283 : k_283.all (fun q => chkE cL_outputChar 10 283 0 q) = true := by decide +kernel
set_option maxRecDepth 100000 in
theorem ck_284 : k_284.all (fun q => chkE cL_undo 10 284 0 q) = true := by decide +kernel
set_option maxRecDepth 100000 in
theorem ck_285 : k_285.all (fun q => chkE cL_restore 10 285 0 q) = true := by decide +kernel
set_option maxRecDepth 100000 in
theorem ck_286 : k_286.all (fun q => chkE cL_law 10 286 0 q) = true := by decide +kernel
set_option maxRecDepth 100000 in
theorem ck_287 : k_287.all (fun q => chkE cJ9_max_7cf53 11 287 0 q) = true := by decide +kernel
set_option maxRecDepth 100000 in
theorem ck_288 : k_288.all (fun q => chkE cJ9_min_7cf53 11 288 0 q) = true := by decide +kernel
set_option maxRecDepth 100000 in
theorem ck_289 : k_289.all (fun q => chkE cJ9_abs_0f7a4 11 289 0 q) = true := by decide +kernel
set_option maxRecDepth 100000 in
theorem ck_290 : k_290.all (fun q => chkE cJ13_bitCount_95d88 12 290 0 q) = true := by decide +kernel
set_option maxRecDepth 100000 in
theorem ck_291 : k_291.all (fun q => chkE cJ13_numberOfTrailingZeros_95d88 12 291 0 q) = true := by decide +kernel
set_option maxRecDepth 100000 in
theorem ck_292 : k_292.all (fun q => chkE cJ6_numberOfTrailingZeros_0f7a4 13 292 0 q) = true := by decide +kernel
set_option maxRecDepth 100000 in
theorem ck_293 : k_293.all (fun q => chkE cJ7_fill_53178 14 293 0 q) = true := by decide +kernel
set_option maxRecDepth 100000 in
theorem ck_294 : k_294.all (fun q => chkE cJ7_fill_d0a16 14 294 0 q) = true := by decide +kernel
