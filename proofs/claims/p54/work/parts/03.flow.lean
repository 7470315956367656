/-! the deep machine's flow: variables, constants, jumps -/
def xget (lv : XLv) (i : Nat) : Option Value := match lv with
  | [] => none
  | q :: r => bif Nat.beq q.1 i then some q.2 else xget r i
def xcl1 (i : Nat) (lv : XLv) : XLv := lv.filter (fun q => !(q.1 == i) && !(q.1 + 1 == i && q.2.category == 2))
def xcl2 (i : Nat) (lv : XLv) : XLv := lv.filter (fun q => !(q.1 == i) && (!(q.1 == i + 1) && !(q.1 + 1 == i && q.2.category == 2)))
def xld (lv : XLv) (i : Nat) (t : Nat) (st : List Value) : Option (List Value) := match xget lv i, t with
  | some (.int x), 0 => some (.int x :: st)
  | some (.long x), 1 => some (.long x :: st)
  | some (.float x), 2 => some (.float x :: st)
  | some (.double x), 3 => some (.double x :: st)
  | some (.ref x), 4 => some (.ref x :: st)
  | some .null, 4 => some (.null :: st)
  | _, _ => none
def xsto (nL : Nat) (lv : XLv) (i : Nat) (t : Nat) (st : List Value) : Option (XLv × List Value) := match st, t with
  | .int x :: r, 0 => bif Nat.blt i nL then some ((i, .int x) :: xcl1 i lv, r) else none
  | .long x :: r, 1 => bif Nat.blt (i + 1) nL then some ((i, .long x) :: xcl2 i lv, r) else none
  | .float x :: r, 2 => bif Nat.blt i nL then some ((i, .float x) :: xcl1 i lv, r) else none
  | .double x :: r, 3 => bif Nat.blt (i + 1) nL then some ((i, .double x) :: xcl2 i lv, r) else none
  | .ref x :: r, 4 => bif Nat.blt i nL then some ((i, .ref x) :: xcl1 i lv, r) else none
  | .null :: r, 4 => bif Nat.blt i nL then some ((i, .null) :: xcl1 i lv, r) else none
  | _, _ => none
def xinc (nL : Nat) (lv : XLv) (i : Nat) (vs : List Value) : Option XLv := match xget lv i, vs with
  | some (.int x), [.int q] => bif Nat.blt i nL then some ((i, .int (x + q)) :: xcl1 i lv) else none
  | _, _ => none
def xif1 (k : ClassFile.Cond) (x : Int32) (a b : Nat) : Nat := match k with
  | .eq => if x = 0 then a else b
  | .ne => if x = 0 then b else a
  | .lt => if x < 0 then a else b
  | .ge => if 0 ≤ x then a else b
  | .gt => if 0 < x then a else b
  | .le => if x ≤ 0 then a else b
def xif2 (k : ClassFile.Cond) (x y : Int32) (a b : Nat) : Nat := match k with
  | .eq => if x = y then a else b
  | .ne => if x = y then b else a
  | .lt => if x < y then a else b
  | .ge => if y ≤ x then a else b
  | .gt => if y < x then a else b
  | .le => if x ≤ y then a else b
def xcm1 (k : ClassFile.Cond) (a b : Nat) (st : List Value) : Option (Nat × List Value) := match st with
  | .int x :: r => some (xif1 k x a b, r)
  | _ => none
def xcm2 (k : ClassFile.Cond) (a b : Nat) (st : List Value) : Option (Nat × List Value) := match st with
  | .int y :: .int x :: r => some (xif2 k x y a b, r)
  | _ => none
/-- two constants of the enums (their numbers lie below nE), or null -/
def xcma (nE : Nat) (k : ACond) (a b : Nat) (st : List Value) : Option (Nat × List Value) := match st with
  | .ref y :: .ref x :: r => bif Nat.blt x nE && Nat.blt y nE then (match k with
    | .eq => some (bif Nat.beq x y then a else b, r)
    | .ne => some (bif Nat.beq x y then b else a, r)) else none
  | _ => none
def xnul (a b : Nat) (st : List Value) : Option (Nat × List Value) := match st with
  | .null :: r => some (a, r)
  | .ref _ :: r => some (b, r)
  | _ => none
def xtab (lo hi : Int) (a : Nat) (ts : List Nat) (x : Int) : Option Nat := if x < lo ∨ hi < x then some a else ts[(x - lo).toNat]?
def xlook (ps : List (Int × Int)) (ts : List Nat) (a : Nat) (x : Int) : Nat := match ps, ts with
  | (k, _) :: r, t :: rt => if x = k then t else xlook r rt a x
  | _, _ => a
def xswt (lo hi : Int) (a : Nat) (ts : List Nat) (st : List Value) : Option (Nat × List Value) := match st with
  | .int x :: r => (xtab lo hi a ts x.toInt).map (fun t => (t, r))
  | _ => none
def xswl (ps : List (Int × Int)) (a : Nat) (ts : List Nat) (st : List Value) : Option (Nat × List Value) := match st with
  | .int x :: r => some (xlook ps ts a x.toInt, r)
  | _ => none
def xcst (vs : List Value) (st : List Value) : Option (List Value) := match vs with
  | [.int x] => some (.int x :: st)
  | [.long x] => some (.long x :: st)
  | [.double x] => some (.double x :: st)
  | _ => none
def xgoS (n : Nat) (lv : XLv) (r : Option (List Value)) : Option (Nat × (XLv × List Value)) := match r with
  | some st => some (n, (lv, st))
  | none => none
def xgoV (n : Nat) (r : Option (XLv × List Value)) : Option (Nat × (XLv × List Value)) := match r with
  | some q => some (n, q)
  | none => none
def xgoI (n : Nat) (st : List Value) (r : Option XLv) : Option (Nat × (XLv × List Value)) := match r with
  | some q => some (n, (q, st))
  | none => none
def xgoB (lv : XLv) (r : Option (Nat × List Value)) : Option (Nat × (XLv × List Value)) := match r with
  | some q => some (q.1, (lv, q.2))
  | none => none
def xle (e : XI) : Nat := match e.1 with
  | .tableswitch _ _ _ _ | .lookupswitch _ _ => e.2.1.2
  | i => xlen i
def xflow (nE nL : Nat) (e : XI) (pc : Nat) (lv : XLv) (st : List Value) : Option (Nat × (XLv × List Value)) := match e.1 with
  | .iload i => xgoS (pc + 2) lv (xld lv i 0 st)
  | .iload_n i => xgoS (pc + 1) lv (xld lv (i : Nat) 0 st)
  | .istore i => xgoV (pc + 2) (xsto nL lv i 0 st)
  | .istore_n i => xgoV (pc + 1) (xsto nL lv (i : Nat) 0 st)
  | .lload i => xgoS (pc + 2) lv (xld lv i 1 st)
  | .lload_n i => xgoS (pc + 1) lv (xld lv (i : Nat) 1 st)
  | .lstore i => xgoV (pc + 2) (xsto nL lv i 1 st)
  | .lstore_n i => xgoV (pc + 1) (xsto nL lv (i : Nat) 1 st)
  | .fload i => xgoS (pc + 2) lv (xld lv i 2 st)
  | .fload_n i => xgoS (pc + 1) lv (xld lv (i : Nat) 2 st)
  | .fstore i => xgoV (pc + 2) (xsto nL lv i 2 st)
  | .fstore_n i => xgoV (pc + 1) (xsto nL lv (i : Nat) 2 st)
  | .dload i => xgoS (pc + 2) lv (xld lv i 3 st)
  | .dload_n i => xgoS (pc + 1) lv (xld lv (i : Nat) 3 st)
  | .dstore i => xgoV (pc + 2) (xsto nL lv i 3 st)
  | .dstore_n i => xgoV (pc + 1) (xsto nL lv (i : Nat) 3 st)
  | .aload i => xgoS (pc + 2) lv (xld lv i 4 st)
  | .aload_n i => xgoS (pc + 1) lv (xld lv (i : Nat) 4 st)
  | .astore i => xgoV (pc + 2) (xsto nL lv i 4 st)
  | .astore_n i => xgoV (pc + 1) (xsto nL lv (i : Nat) 4 st)
  | .iinc i _ => xgoI (pc + 3) st (xinc nL lv i e.2.2.1)
  | .iconst _ => xgoS (pc + 1) lv (xcst e.2.2.1 st)
  | .lconst _ => xgoS (pc + 1) lv (xcst e.2.2.1 st)
  | .bipush _ => xgoS (pc + 2) lv (xcst e.2.2.1 st)
  | .sipush _ => xgoS (pc + 3) lv (xcst e.2.2.1 st)
  | .ldc _ => xgoS (pc + 2) lv (xcst e.2.2.1 st)
  | .ldc_w _ => xgoS (pc + 3) lv (xcst e.2.2.1 st)
  | .ldc2_w _ => xgoS (pc + 3) lv (xcst e.2.2.1 st)
  | .goto _ => some (e.2.1.1, (lv, st))
  | .ifCond k _ => xgoB lv (xcm1 k e.2.1.1 (pc + 3) st)
  | .if_icmp k _ => xgoB lv (xcm2 k e.2.1.1 (pc + 3) st)
  | .if_acmp k _ => xgoB lv (xcma nE k e.2.1.1 (pc + 3) st)
  | .ifnull _ => xgoB lv (xnul e.2.1.1 (pc + 3) st)
  | .ifnonnull _ => xgoB lv (xnul (pc + 3) e.2.1.1 st)
  | .tableswitch _ lo hi _ => xgoB lv (xswt lo hi e.2.1.1 e.2.2.2 st)
  | .lookupswitch _ ps => xgoB lv (xswl ps.toList e.2.1.1 e.2.2.2 st)
  | i => xgoS (pc + xlen i) lv (xst i st)
/-- a row of the table is right, as far as its own numbers say -/
def xokF (Gw : List Cond) (own : String) (e : XI) (pc : Nat) : Prop := match e.1 with
  | .iconst n => e.2.2.1 = [.int (Int32.ofInt n)]
  | .bipush n => e.2.2.1 = [.int (Int8.ofInt n).toInt32]
  | .sipush n => e.2.2.1 = [.int (Int16.ofInt n).toInt32]
  | .lconst n => e.2.2.1 = [.long (Int64.ofNat (n : Nat))]
  | .iinc _ n => e.2.2.1 = [.int (Int32.ofInt n)]
  | .ldc i => (∃ x, e.2.2.1 = [.int x] ∧ Cond.constant own i x ∈ Gw) ∨ ∃ q, e.2.2.1 = [.ref q]
  | .ldc_w i => ∃ x, e.2.2.1 = [.int x] ∧ Cond.constant own i x ∈ Gw
  | .ldc2_w i => (∃ x, e.2.2.1 = [.long x] ∧ Cond.constantLong own i x ∈ Gw) ∨ ∃ x, e.2.2.1 = [.double x] ∧ Cond.constantDouble own i x ∈ Gw
  | .goto d | .ifCond _ d | .if_icmp _ d | .if_acmp _ d | .ifnull d | .ifnonnull d => (pc : Int) + d = (e.2.1.1 : Int)
  | .tableswitch d _ _ offs => (pc : Int) + d = (e.2.1.1 : Int) ∧ offs.toList.map (fun q => (pc : Int) + q) = e.2.2.2.map (fun t : Nat => (t : Int))
  | .lookupswitch d ps => (pc : Int) + d = (e.2.1.1 : Int) ∧ ps.toList.map (fun q => (pc : Int) + q.2) = e.2.2.2.map (fun t : Nat => (t : Int)) ∧ (ps.toList.zip (ps.toList.drop 1)).all (fun (a, next) => a.1 < next.1) = true
  | _ => True
theorem xget_mem {lv : XLv} {i : Nat} {v : Value} (h : xget lv i = some v) : (i, v) ∈ lv := by
  induction lv with
  | nil => cases h
  | cons q r ih =>
    obtain ⟨j, w⟩ := q
    unfold xget at h
    cases hj : Nat.beq j i with
    | true =>
      rw [hj] at h
      have e1 : j = i := Nat.eq_of_beq_eq_true hj
      have e2 : w = v := Option.some.inj h
      rw [e1, e2]
      exact List.mem_cons_self
    | false =>
      rw [hj] at h
      exact List.mem_cons_of_mem _ (ih h)
theorem xget_at {sa : Nat → Nat} {ls : Array Slot} {nL : Nat} {lv : XLv} {i : Nat} {v : Value} (hl : lv_has ls nL (xV sa lv)) (h : xget lv i = some v) : ls[i]? = some (.val (xs sa v)) :=
  hl.2.2 (i, xs sa v) (List.mem_map.mpr ⟨(i, v), xget_mem h, rfl⟩)
theorem xV_cl1 (sa : Nat → Nat) (i : Nat) (lv : XLv) : (xV sa lv).filter (fun q => !(q.1 == i) && !(q.1 + 1 == i && q.2.category == 2)) = xV sa (xcl1 i lv) := by
  unfold xV xcl1
  rw [List.filter_map]
  congr 1
  apply List.filter_congr
  intro q _
  simp only [Function.comp, xs_cat]
theorem xV_cl2 (sa : Nat → Nat) (i : Nat) (lv : XLv) : (xV sa lv).filter (fun q => !(q.1 == i) && (!(q.1 == i + 1) && !(q.1 + 1 == i && q.2.category == 2))) = xV sa (xcl2 i lv) := by
  unfold xV xcl2
  rw [List.filter_map]
  congr 1
  apply List.filter_congr
  intro q _
  simp only [Function.comp, xs_cat]
theorem xV_st1 {sa : Nat → Nat} {i : Nat} {v w : Value} {lv : XLv} (hw : xs sa v = w) : (i, w) :: (xV sa lv).filter (fun q => !(q.1 == i) && !(q.1 + 1 == i && q.2.category == 2)) = xV sa ((i, v) :: xcl1 i lv) := by
  rw [xV_cl1, ← hw]
  rfl
theorem xV_st2 {sa : Nat → Nat} {i : Nat} {v w : Value} {lv : XLv} (hw : xs sa v = w) : (i, w) :: (xV sa lv).filter (fun q => !(q.1 == i) && (!(q.1 == i + 1) && !(q.1 + 1 == i && q.2.category == 2))) = xV sa ((i, v) :: xcl2 i lv) := by
  rw [xV_cl2, ← hw]
  rfl
theorem xlt {i n : Nat} (h : Nat.blt i n = true) : i < n := Nat.le_of_ble_eq_true h
section XS2
variable {p : Program} {l : Launch} {e : Env} {R : Room} {s : State} {m : MethodId} {args : Array Value} {below : List Frame} {meth : Method} {c : Code} {H : Heap} {locs : List Loc} {cells slots : Nat} {Q : State → Prop} {cc : ByteArray} {pc : Nat} {ls : Array Slot} {sa : Nat → Nat}
theorem xiload_ok (hx : p.tables.exec = Jvm.exec) (hb : c.code = cc) {i : Nat} {nL : Nat} {lv : XLv} {st st' : List Value} (h : xld lv i 0 st = some st') (hd : decode cc pc = .ok (.iload i, 2)) (hl : lv_has ls nL (xV sa lv)) (k : W p l e R s m args below meth c H locs cells slots Q (F0 m (pc + 2) ls (xL sa st'))) : W p l e R s m args below meth c H locs cells slots Q (F0 m pc ls (xL sa st)) := by
  unfold xld at h
  cases hg : xget lv i with
  | none => rw [hg] at h; cases h
  | some v =>
    rw [hg] at h
    have hv := xget_at hl hg
    cases v with
    | int x => cases h; exact lv_iload hx hb hd hv k
    | long x => cases h
    | float x => cases h
    | double x => cases h
    | ref x => cases h
    | null => cases h
    | retAddr x => cases h
theorem xistore_ok (hx : p.tables.exec = Jvm.exec) (hb : c.code = cc) {i : Nat} {nL : Nat} {lv : XLv} {st : List Value} {q : XLv × List Value} (h : xsto nL lv i 0 st = some q) (hd : decode cc pc = .ok (.istore i, 2)) (hl : lv_has ls nL (xV sa lv)) (k : ∀ ls : Array Slot, lv_has ls nL (xV sa q.1) → W p l e R s m args below meth c H locs cells slots Q (F0 m (pc + 2) ls (xL sa q.2))) : W p l e R s m args below meth c H locs cells slots Q (F0 m pc ls (xL sa st)) := by
  unfold xsto at h
  cases st with
  | nil => cases h
  | cons v r =>
    cases v with
    | int x =>
      cases hn : Nat.blt i nL with
      | false => rw [hn] at h; cases h
      | true =>
        rw [hn] at h
        cases h
        exact lv_istore hx hb hd hl (xlt hn) (xV_st1 rfl) k
    | long x => cases h
    | float x => cases h
    | double x => cases h
    | ref x => cases h
    | null => cases h
    | retAddr x => cases h
theorem xiload_n_ok (hx : p.tables.exec = Jvm.exec) (hb : c.code = cc) {i : Fin 4} {nL : Nat} {lv : XLv} {st st' : List Value} (h : xld lv (i : Nat) 0 st = some st') (hd : decode cc pc = .ok (.iload_n i, 1)) (hl : lv_has ls nL (xV sa lv)) (k : W p l e R s m args below meth c H locs cells slots Q (F0 m (pc + 1) ls (xL sa st'))) : W p l e R s m args below meth c H locs cells slots Q (F0 m pc ls (xL sa st)) := by
  unfold xld at h
  cases hg : xget lv (i : Nat) with
  | none => rw [hg] at h; cases h
  | some v =>
    rw [hg] at h
    have hv := xget_at hl hg
    cases v with
    | int x => cases h; exact lv_iload_n hx hb hd rfl hv k
    | long x => cases h
    | float x => cases h
    | double x => cases h
    | ref x => cases h
    | null => cases h
    | retAddr x => cases h
theorem xistore_n_ok (hx : p.tables.exec = Jvm.exec) (hb : c.code = cc) {i : Fin 4} {nL : Nat} {lv : XLv} {st : List Value} {q : XLv × List Value} (h : xsto nL lv (i : Nat) 0 st = some q) (hd : decode cc pc = .ok (.istore_n i, 1)) (hl : lv_has ls nL (xV sa lv)) (k : ∀ ls : Array Slot, lv_has ls nL (xV sa q.1) → W p l e R s m args below meth c H locs cells slots Q (F0 m (pc + 1) ls (xL sa q.2))) : W p l e R s m args below meth c H locs cells slots Q (F0 m pc ls (xL sa st)) := by
  unfold xsto at h
  cases st with
  | nil => cases h
  | cons v r =>
    cases v with
    | int x =>
      cases hn : Nat.blt (i : Nat) nL with
      | false => rw [hn] at h; cases h
      | true =>
        rw [hn] at h
        cases h
        exact lv_istore_n hx hb hd rfl hl (xlt hn) (xV_st1 rfl) k
    | long x => cases h
    | float x => cases h
    | double x => cases h
    | ref x => cases h
    | null => cases h
    | retAddr x => cases h
theorem xlload_ok (hx : p.tables.exec = Jvm.exec) (hb : c.code = cc) {i : Nat} {nL : Nat} {lv : XLv} {st st' : List Value} (h : xld lv i 1 st = some st') (hd : decode cc pc = .ok (.lload i, 2)) (hl : lv_has ls nL (xV sa lv)) (k : W p l e R s m args below meth c H locs cells slots Q (F0 m (pc + 2) ls (xL sa st'))) : W p l e R s m args below meth c H locs cells slots Q (F0 m pc ls (xL sa st)) := by
  unfold xld at h
  cases hg : xget lv i with
  | none => rw [hg] at h; cases h
  | some v =>
    rw [hg] at h
    have hv := xget_at hl hg
    cases v with
    | int x => cases h
    | long x => cases h; exact lv_lload hx hb hd hv k
    | float x => cases h
    | double x => cases h
    | ref x => cases h
    | null => cases h
    | retAddr x => cases h
theorem xlstore_ok (hx : p.tables.exec = Jvm.exec) (hb : c.code = cc) {i : Nat} {nL : Nat} {lv : XLv} {st : List Value} {q : XLv × List Value} (h : xsto nL lv i 1 st = some q) (hd : decode cc pc = .ok (.lstore i, 2)) (hl : lv_has ls nL (xV sa lv)) (k : ∀ ls : Array Slot, lv_has ls nL (xV sa q.1) → W p l e R s m args below meth c H locs cells slots Q (F0 m (pc + 2) ls (xL sa q.2))) : W p l e R s m args below meth c H locs cells slots Q (F0 m pc ls (xL sa st)) := by
  unfold xsto at h
  cases st with
  | nil => cases h
  | cons v r =>
    cases v with
    | int x => cases h
    | long x =>
      cases hn : Nat.blt (i + 1) nL with
      | false => rw [hn] at h; cases h
      | true =>
        rw [hn] at h
        cases h
        exact lv_lstore hx hb hd hl (xlt hn) (xV_st2 rfl) k
    | float x => cases h
    | double x => cases h
    | ref x => cases h
    | null => cases h
    | retAddr x => cases h
theorem xlload_n_ok (hx : p.tables.exec = Jvm.exec) (hb : c.code = cc) {i : Fin 4} {nL : Nat} {lv : XLv} {st st' : List Value} (h : xld lv (i : Nat) 1 st = some st') (hd : decode cc pc = .ok (.lload_n i, 1)) (hl : lv_has ls nL (xV sa lv)) (k : W p l e R s m args below meth c H locs cells slots Q (F0 m (pc + 1) ls (xL sa st'))) : W p l e R s m args below meth c H locs cells slots Q (F0 m pc ls (xL sa st)) := by
  unfold xld at h
  cases hg : xget lv (i : Nat) with
  | none => rw [hg] at h; cases h
  | some v =>
    rw [hg] at h
    have hv := xget_at hl hg
    cases v with
    | int x => cases h
    | long x => cases h; exact lv_lload_n hx hb hd rfl hv k
    | float x => cases h
    | double x => cases h
    | ref x => cases h
    | null => cases h
    | retAddr x => cases h
theorem xlstore_n_ok (hx : p.tables.exec = Jvm.exec) (hb : c.code = cc) {i : Fin 4} {nL : Nat} {lv : XLv} {st : List Value} {q : XLv × List Value} (h : xsto nL lv (i : Nat) 1 st = some q) (hd : decode cc pc = .ok (.lstore_n i, 1)) (hl : lv_has ls nL (xV sa lv)) (k : ∀ ls : Array Slot, lv_has ls nL (xV sa q.1) → W p l e R s m args below meth c H locs cells slots Q (F0 m (pc + 1) ls (xL sa q.2))) : W p l e R s m args below meth c H locs cells slots Q (F0 m pc ls (xL sa st)) := by
  unfold xsto at h
  cases st with
  | nil => cases h
  | cons v r =>
    cases v with
    | int x => cases h
    | long x =>
      cases hn : Nat.blt ((i : Nat) + 1) nL with
      | false => rw [hn] at h; cases h
      | true =>
        rw [hn] at h
        cases h
        exact lv_lstore_n hx hb hd rfl hl (xlt hn) (xV_st2 rfl) k
    | float x => cases h
    | double x => cases h
    | ref x => cases h
    | null => cases h
    | retAddr x => cases h
theorem xfload_ok (hx : p.tables.exec = Jvm.exec) (hb : c.code = cc) {i : Nat} {nL : Nat} {lv : XLv} {st st' : List Value} (h : xld lv i 2 st = some st') (hd : decode cc pc = .ok (.fload i, 2)) (hl : lv_has ls nL (xV sa lv)) (k : W p l e R s m args below meth c H locs cells slots Q (F0 m (pc + 2) ls (xL sa st'))) : W p l e R s m args below meth c H locs cells slots Q (F0 m pc ls (xL sa st)) := by
  unfold xld at h
  cases hg : xget lv i with
  | none => rw [hg] at h; cases h
  | some v =>
    rw [hg] at h
    have hv := xget_at hl hg
    cases v with
    | int x => cases h
    | long x => cases h
    | float x => cases h; exact lv_fload hx hb hd hv k
    | double x => cases h
    | ref x => cases h
    | null => cases h
    | retAddr x => cases h
theorem xfstore_ok (hx : p.tables.exec = Jvm.exec) (hb : c.code = cc) {i : Nat} {nL : Nat} {lv : XLv} {st : List Value} {q : XLv × List Value} (h : xsto nL lv i 2 st = some q) (hd : decode cc pc = .ok (.fstore i, 2)) (hl : lv_has ls nL (xV sa lv)) (k : ∀ ls : Array Slot, lv_has ls nL (xV sa q.1) → W p l e R s m args below meth c H locs cells slots Q (F0 m (pc + 2) ls (xL sa q.2))) : W p l e R s m args below meth c H locs cells slots Q (F0 m pc ls (xL sa st)) := by
  unfold xsto at h
  cases st with
  | nil => cases h
  | cons v r =>
    cases v with
    | int x => cases h
    | long x => cases h
    | float x =>
      cases hn : Nat.blt i nL with
      | false => rw [hn] at h; cases h
      | true =>
        rw [hn] at h
        cases h
        exact lv_fstore hx hb hd hl (xlt hn) (xV_st1 rfl) k
    | double x => cases h
    | ref x => cases h
    | null => cases h
    | retAddr x => cases h
theorem xfload_n_ok (hx : p.tables.exec = Jvm.exec) (hb : c.code = cc) {i : Fin 4} {nL : Nat} {lv : XLv} {st st' : List Value} (h : xld lv (i : Nat) 2 st = some st') (hd : decode cc pc = .ok (.fload_n i, 1)) (hl : lv_has ls nL (xV sa lv)) (k : W p l e R s m args below meth c H locs cells slots Q (F0 m (pc + 1) ls (xL sa st'))) : W p l e R s m args below meth c H locs cells slots Q (F0 m pc ls (xL sa st)) := by
  unfold xld at h
  cases hg : xget lv (i : Nat) with
  | none => rw [hg] at h; cases h
  | some v =>
    rw [hg] at h
    have hv := xget_at hl hg
    cases v with
    | int x => cases h
    | long x => cases h
    | float x => cases h; exact lv_fload_n hx hb hd rfl hv k
    | double x => cases h
    | ref x => cases h
    | null => cases h
    | retAddr x => cases h
theorem xfstore_n_ok (hx : p.tables.exec = Jvm.exec) (hb : c.code = cc) {i : Fin 4} {nL : Nat} {lv : XLv} {st : List Value} {q : XLv × List Value} (h : xsto nL lv (i : Nat) 2 st = some q) (hd : decode cc pc = .ok (.fstore_n i, 1)) (hl : lv_has ls nL (xV sa lv)) (k : ∀ ls : Array Slot, lv_has ls nL (xV sa q.1) → W p l e R s m args below meth c H locs cells slots Q (F0 m (pc + 1) ls (xL sa q.2))) : W p l e R s m args below meth c H locs cells slots Q (F0 m pc ls (xL sa st)) := by
  unfold xsto at h
  cases st with
  | nil => cases h
  | cons v r =>
    cases v with
    | int x => cases h
    | long x => cases h
    | float x =>
      cases hn : Nat.blt (i : Nat) nL with
      | false => rw [hn] at h; cases h
      | true =>
        rw [hn] at h
        cases h
        exact lv_fstore_n hx hb hd rfl hl (xlt hn) (xV_st1 rfl) k
    | double x => cases h
    | ref x => cases h
    | null => cases h
    | retAddr x => cases h
theorem xdload_ok (hx : p.tables.exec = Jvm.exec) (hb : c.code = cc) {i : Nat} {nL : Nat} {lv : XLv} {st st' : List Value} (h : xld lv i 3 st = some st') (hd : decode cc pc = .ok (.dload i, 2)) (hl : lv_has ls nL (xV sa lv)) (k : W p l e R s m args below meth c H locs cells slots Q (F0 m (pc + 2) ls (xL sa st'))) : W p l e R s m args below meth c H locs cells slots Q (F0 m pc ls (xL sa st)) := by
  unfold xld at h
  cases hg : xget lv i with
  | none => rw [hg] at h; cases h
  | some v =>
    rw [hg] at h
    have hv := xget_at hl hg
    cases v with
    | int x => cases h
    | long x => cases h
    | float x => cases h
    | double x => cases h; exact lv_dload hx hb hd hv k
    | ref x => cases h
    | null => cases h
    | retAddr x => cases h
theorem xdstore_ok (hx : p.tables.exec = Jvm.exec) (hb : c.code = cc) {i : Nat} {nL : Nat} {lv : XLv} {st : List Value} {q : XLv × List Value} (h : xsto nL lv i 3 st = some q) (hd : decode cc pc = .ok (.dstore i, 2)) (hl : lv_has ls nL (xV sa lv)) (k : ∀ ls : Array Slot, lv_has ls nL (xV sa q.1) → W p l e R s m args below meth c H locs cells slots Q (F0 m (pc + 2) ls (xL sa q.2))) : W p l e R s m args below meth c H locs cells slots Q (F0 m pc ls (xL sa st)) := by
  unfold xsto at h
  cases st with
  | nil => cases h
  | cons v r =>
    cases v with
    | int x => cases h
    | long x => cases h
    | float x => cases h
    | double x =>
      cases hn : Nat.blt (i + 1) nL with
      | false => rw [hn] at h; cases h
      | true =>
        rw [hn] at h
        cases h
        exact lv_dstore hx hb hd hl (xlt hn) (xV_st2 rfl) k
    | ref x => cases h
    | null => cases h
    | retAddr x => cases h
theorem xdload_n_ok (hx : p.tables.exec = Jvm.exec) (hb : c.code = cc) {i : Fin 4} {nL : Nat} {lv : XLv} {st st' : List Value} (h : xld lv (i : Nat) 3 st = some st') (hd : decode cc pc = .ok (.dload_n i, 1)) (hl : lv_has ls nL (xV sa lv)) (k : W p l e R s m args below meth c H locs cells slots Q (F0 m (pc + 1) ls (xL sa st'))) : W p l e R s m args below meth c H locs cells slots Q (F0 m pc ls (xL sa st)) := by
  unfold xld at h
  cases hg : xget lv (i : Nat) with
  | none => rw [hg] at h; cases h
  | some v =>
    rw [hg] at h
    have hv := xget_at hl hg
    cases v with
    | int x => cases h
    | long x => cases h
    | float x => cases h
    | double x => cases h; exact lv_dload_n hx hb hd rfl hv k
    | ref x => cases h
    | null => cases h
    | retAddr x => cases h
theorem xdstore_n_ok (hx : p.tables.exec = Jvm.exec) (hb : c.code = cc) {i : Fin 4} {nL : Nat} {lv : XLv} {st : List Value} {q : XLv × List Value} (h : xsto nL lv (i : Nat) 3 st = some q) (hd : decode cc pc = .ok (.dstore_n i, 1)) (hl : lv_has ls nL (xV sa lv)) (k : ∀ ls : Array Slot, lv_has ls nL (xV sa q.1) → W p l e R s m args below meth c H locs cells slots Q (F0 m (pc + 1) ls (xL sa q.2))) : W p l e R s m args below meth c H locs cells slots Q (F0 m pc ls (xL sa st)) := by
  unfold xsto at h
  cases st with
  | nil => cases h
  | cons v r =>
    cases v with
    | int x => cases h
    | long x => cases h
    | float x => cases h
    | double x =>
      cases hn : Nat.blt ((i : Nat) + 1) nL with
      | false => rw [hn] at h; cases h
      | true =>
        rw [hn] at h
        cases h
        exact lv_dstore_n hx hb hd rfl hl (xlt hn) (xV_st2 rfl) k
    | ref x => cases h
    | null => cases h
    | retAddr x => cases h
theorem xaload_ok (hx : p.tables.exec = Jvm.exec) (hb : c.code = cc) {i : Nat} {nL : Nat} {lv : XLv} {st st' : List Value} (h : xld lv i 4 st = some st') (hd : decode cc pc = .ok (.aload i, 2)) (hl : lv_has ls nL (xV sa lv)) (k : W p l e R s m args below meth c H locs cells slots Q (F0 m (pc + 2) ls (xL sa st'))) : W p l e R s m args below meth c H locs cells slots Q (F0 m pc ls (xL sa st)) := by
  unfold xld at h
  cases hg : xget lv i with
  | none => rw [hg] at h; cases h
  | some v =>
    rw [hg] at h
    have hv := xget_at hl hg
    cases v with
    | int x => cases h
    | long x => cases h
    | float x => cases h
    | double x => cases h
    | ref x => cases h; exact lv_aload hx hb hd hv k
    | null => cases h; exact lv_aloadN hx hb hd hv k
    | retAddr x => cases h
theorem xastore_ok (hx : p.tables.exec = Jvm.exec) (hb : c.code = cc) {i : Nat} {nL : Nat} {lv : XLv} {st : List Value} {q : XLv × List Value} (h : xsto nL lv i 4 st = some q) (hd : decode cc pc = .ok (.astore i, 2)) (hl : lv_has ls nL (xV sa lv)) (k : ∀ ls : Array Slot, lv_has ls nL (xV sa q.1) → W p l e R s m args below meth c H locs cells slots Q (F0 m (pc + 2) ls (xL sa q.2))) : W p l e R s m args below meth c H locs cells slots Q (F0 m pc ls (xL sa st)) := by
  unfold xsto at h
  cases st with
  | nil => cases h
  | cons v r =>
    cases v with
    | int x => cases h
    | long x => cases h
    | float x => cases h
    | double x => cases h
    | ref x =>
      cases hn : Nat.blt i nL with
      | false => rw [hn] at h; cases h
      | true =>
        rw [hn] at h
        cases h
        exact lv_astore hx hb hd hl (xlt hn) (xV_st1 rfl) k
    | null =>
      cases hn : Nat.blt i nL with
      | false => rw [hn] at h; cases h
      | true =>
        rw [hn] at h
        cases h
        exact lv_astoreN hx hb hd hl (xlt hn) (xV_st1 rfl) k
    | retAddr x => cases h
theorem xaload_n_ok (hx : p.tables.exec = Jvm.exec) (hb : c.code = cc) {i : Fin 4} {nL : Nat} {lv : XLv} {st st' : List Value} (h : xld lv (i : Nat) 4 st = some st') (hd : decode cc pc = .ok (.aload_n i, 1)) (hl : lv_has ls nL (xV sa lv)) (k : W p l e R s m args below meth c H locs cells slots Q (F0 m (pc + 1) ls (xL sa st'))) : W p l e R s m args below meth c H locs cells slots Q (F0 m pc ls (xL sa st)) := by
  unfold xld at h
  cases hg : xget lv (i : Nat) with
  | none => rw [hg] at h; cases h
  | some v =>
    rw [hg] at h
    have hv := xget_at hl hg
    cases v with
    | int x => cases h
    | long x => cases h
    | float x => cases h
    | double x => cases h
    | ref x => cases h; exact lv_aload_n hx hb hd rfl hv k
    | null => cases h; exact lv_aload_nN hx hb hd rfl hv k
    | retAddr x => cases h
theorem xastore_n_ok (hx : p.tables.exec = Jvm.exec) (hb : c.code = cc) {i : Fin 4} {nL : Nat} {lv : XLv} {st : List Value} {q : XLv × List Value} (h : xsto nL lv (i : Nat) 4 st = some q) (hd : decode cc pc = .ok (.astore_n i, 1)) (hl : lv_has ls nL (xV sa lv)) (k : ∀ ls : Array Slot, lv_has ls nL (xV sa q.1) → W p l e R s m args below meth c H locs cells slots Q (F0 m (pc + 1) ls (xL sa q.2))) : W p l e R s m args below meth c H locs cells slots Q (F0 m pc ls (xL sa st)) := by
  unfold xsto at h
  cases st with
  | nil => cases h
  | cons v r =>
    cases v with
    | int x => cases h
    | long x => cases h
    | float x => cases h
    | double x => cases h
    | ref x =>
      cases hn : Nat.blt (i : Nat) nL with
      | false => rw [hn] at h; cases h
      | true =>
        rw [hn] at h
        cases h
        exact lv_astore_n hx hb hd rfl hl (xlt hn) (xV_st1 rfl) k
    | null =>
      cases hn : Nat.blt (i : Nat) nL with
      | false => rw [hn] at h; cases h
      | true =>
        rw [hn] at h
        cases h
        exact lv_astore_nN hx hb hd rfl hl (xlt hn) (xV_st1 rfl) k
    | retAddr x => cases h
theorem xiinc_ok (hx : p.tables.exec = Jvm.exec) (hb : c.code = cc) {i nL : Nat} {n : Int} {lv lv' : XLv} {vs : List Value} {rest : List Value} (h : xinc nL lv i vs = some lv') (hv : vs = [.int (Int32.ofInt n)]) (hd : decode cc pc = .ok (.iinc i n, 3)) (hl : lv_has ls nL (xV sa lv)) (k : ∀ ls : Array Slot, lv_has ls nL (xV sa lv') → W p l e R s m args below meth c H locs cells slots Q (F0 m (pc + 3) ls rest)) : W p l e R s m args below meth c H locs cells slots Q (F0 m pc ls rest) := by
  subst hv
  unfold xinc at h
  cases hg : xget lv i with
  | none => rw [hg] at h; cases h
  | some v =>
    rw [hg] at h
    cases v with
    | int x =>
      cases hn : Nat.blt i nL with
      | false => simp only [hn] at h; cases h
      | true =>
        simp only [hn] at h
        cases h
        have hm := xget_mem hg
        obtain ⟨j, hj⟩ := List.getElem?_of_mem hm
        have hj2 : (xV sa lv)[j]? = some (i, .int x) := by unfold xV; rw [List.getElem?_map, hj]; rfl
        exact lv_iinc hx hb hd hl hj2 rfl (xlt hn) (xV_st1 rfl) k
    | _ => cases h
theorem xcm1_ok (hx : p.tables.exec = Jvm.exec) (hb : c.code = cc) {q : ClassFile.Cond} {off : Int} {tgt : Nat} {st : List Value} {r : Nat × List Value} (h : xcm1 q tgt (pc + 3) st = some r) (ht : (pc : Int) + off = (tgt : Int)) (hd : decode cc pc = .ok (.ifCond q off, 3)) (k : W p l e R s m args below meth c H locs cells slots Q (F0 m r.1 ls (xL sa r.2))) : W p l e R s m args below meth c H locs cells slots Q (F0 m pc ls (xL sa st)) := by
  unfold xcm1 at h
  split at h
  · rename_i x r0
    cases h
    cases q with
    | eq =>
      have k : W p l e R s m args below meth c H locs cells slots Q (F0 m (if x = 0 then tgt else pc + 3) ls (xL sa r0)) := k
      exact lv_if_eq hx hb hd ht (fun z => by rw [if_pos z] at k; exact k) (fun z => by rw [if_neg z] at k; exact k)
    | ne =>
      have k : W p l e R s m args below meth c H locs cells slots Q (F0 m (if x = 0 then pc + 3 else tgt) ls (xL sa r0)) := k
      exact lv_if_ne hx hb hd ht (fun z => by rw [if_neg z] at k; exact k) (fun z => by rw [if_pos z] at k; exact k)
    | lt =>
      have k : W p l e R s m args below meth c H locs cells slots Q (F0 m (if x < 0 then tgt else pc + 3) ls (xL sa r0)) := k
      exact lv_if_lt hx hb hd ht (fun z => by rw [if_pos z] at k; exact k) (fun z => by rw [if_neg z] at k; exact k)
    | ge =>
      have k : W p l e R s m args below meth c H locs cells slots Q (F0 m (if 0 ≤ x then tgt else pc + 3) ls (xL sa r0)) := k
      exact lv_if_ge hx hb hd ht (fun z => by rw [if_pos z] at k; exact k) (fun z => by rw [if_neg z] at k; exact k)
    | gt =>
      have k : W p l e R s m args below meth c H locs cells slots Q (F0 m (if 0 < x then tgt else pc + 3) ls (xL sa r0)) := k
      exact lv_if_gt hx hb hd ht (fun z => by rw [if_pos z] at k; exact k) (fun z => by rw [if_neg z] at k; exact k)
    | le =>
      have k : W p l e R s m args below meth c H locs cells slots Q (F0 m (if x ≤ 0 then tgt else pc + 3) ls (xL sa r0)) := k
      exact lv_if_le hx hb hd ht (fun z => by rw [if_pos z] at k; exact k) (fun z => by rw [if_neg z] at k; exact k)
  · cases h
theorem xcm2_ok (hx : p.tables.exec = Jvm.exec) (hb : c.code = cc) {q : ClassFile.Cond} {off : Int} {tgt : Nat} {st : List Value} {r : Nat × List Value} (h : xcm2 q tgt (pc + 3) st = some r) (ht : (pc : Int) + off = (tgt : Int)) (hd : decode cc pc = .ok (.if_icmp q off, 3)) (k : W p l e R s m args below meth c H locs cells slots Q (F0 m r.1 ls (xL sa r.2))) : W p l e R s m args below meth c H locs cells slots Q (F0 m pc ls (xL sa st)) := by
  unfold xcm2 at h
  split at h
  · rename_i y x r0
    cases h
    cases q with
    | eq =>
      have k : W p l e R s m args below meth c H locs cells slots Q (F0 m (if x = y then tgt else pc + 3) ls (xL sa r0)) := k
      exact lv_icmp_eq hx hb hd ht (fun z => by rw [if_pos z] at k; exact k) (fun z => by rw [if_neg z] at k; exact k)
    | ne =>
      have k : W p l e R s m args below meth c H locs cells slots Q (F0 m (if x = y then pc + 3 else tgt) ls (xL sa r0)) := k
      exact lv_icmp_ne hx hb hd ht (fun z => by rw [if_neg z] at k; exact k) (fun z => by rw [if_pos z] at k; exact k)
    | lt =>
      have k : W p l e R s m args below meth c H locs cells slots Q (F0 m (if x < y then tgt else pc + 3) ls (xL sa r0)) := k
      exact lv_icmp_lt hx hb hd ht (fun z => by rw [if_pos z] at k; exact k) (fun z => by rw [if_neg z] at k; exact k)
    | ge =>
      have k : W p l e R s m args below meth c H locs cells slots Q (F0 m (if y ≤ x then tgt else pc + 3) ls (xL sa r0)) := k
      exact lv_icmp_ge hx hb hd ht (fun z => by rw [if_pos z] at k; exact k) (fun z => by rw [if_neg z] at k; exact k)
    | gt =>
      have k : W p l e R s m args below meth c H locs cells slots Q (F0 m (if y < x then tgt else pc + 3) ls (xL sa r0)) := k
      exact lv_icmp_gt hx hb hd ht (fun z => by rw [if_pos z] at k; exact k) (fun z => by rw [if_neg z] at k; exact k)
    | le =>
      have k : W p l e R s m args below meth c H locs cells slots Q (F0 m (if x ≤ y then tgt else pc + 3) ls (xL sa r0)) := k
      exact lv_icmp_le hx hb hd ht (fun z => by rw [if_pos z] at k; exact k) (fun z => by rw [if_neg z] at k; exact k)
  · cases h
theorem xcma_ok (hx : p.tables.exec = Jvm.exec) (hb : c.code = cc) {nE : Nat} (hE : ∀ a b, a < nE → b < nE → sa a = sa b → a = b) {q : ACond} {off : Int} {tgt : Nat} {st : List Value} {r : Nat × List Value} (h : xcma nE q tgt (pc + 3) st = some r) (ht : (pc : Int) + off = (tgt : Int)) (hd : decode cc pc = .ok (.if_acmp q off, 3)) (k : W p l e R s m args below meth c H locs cells slots Q (F0 m r.1 ls (xL sa r.2))) : W p l e R s m args below meth c H locs cells slots Q (F0 m pc ls (xL sa st)) := by
  unfold xcma at h
  split at h
  · rename_i y x r0
    cases hn : (Nat.blt x nE && Nat.blt y nE) with
    | false => rw [hn] at h; cases h
    | true =>
      rw [hn] at h
      obtain ⟨n1, n2⟩ := Bool.and_eq_true_iff.mp hn
      have hinj : (some (sa x) = some (sa y)) ↔ x = y := ⟨fun z => hE x y (xlt n1) (xlt n2) (Option.some.inj z), fun z => by rw [z]⟩
      cases q with
      | eq =>
        cases h
        refine lv_acmp_eq (rx := some (sa x)) (ry := some (sa y)) hx hb hd ht (fun z => ?_) (fun z => ?_)
        · have hb2 : Nat.beq x y = true := by rw [hinj.mp z]; exact Nat.beq_refl y
          simp only [hb2] at k
          exact k
        · have hb2 : Nat.beq x y = false := by
            cases hq : Nat.beq x y with
            | false => rfl
            | true => exact absurd (hinj.mpr (Nat.eq_of_beq_eq_true hq)) z
          simp only [hb2] at k
          exact k
      | ne =>
        cases h
        refine lv_acmp_ne (rx := some (sa x)) (ry := some (sa y)) hx hb hd ht (fun z => ?_) (fun z => ?_)
        · have hb2 : Nat.beq x y = false := by
            cases hq : Nat.beq x y with
            | false => rfl
            | true => exact absurd (hinj.mpr (Nat.eq_of_beq_eq_true hq)) z
          simp only [hb2] at k
          exact k
        · have hb2 : Nat.beq x y = true := by rw [hinj.mp z]; exact Nat.beq_refl y
          simp only [hb2] at k
          exact k
  · cases h
theorem xlook_ok {d : Int} {pc a : Nat} (hd : (pc : Int) + d = (a : Int)) (x : Int) : ∀ (ps : List (Int × Int)) (ts : List Nat), ps.map (fun q => (pc : Int) + q.2) = ts.map (fun t : Nat => (t : Int)) → (pc : Int) + Op.lookupswitch.offset ps d x = (xlook ps ts a x : Int) := by
  intro ps
  induction ps with
  | nil => intro ts h; cases ts with
    | nil => exact hd
    | cons t r => cases h
  | cons q r ih =>
    intro ts h
    obtain ⟨k, v⟩ := q
    cases ts with
    | nil => cases h
    | cons t rt =>
      simp only [List.map_cons, List.cons.injEq] at h
      unfold xlook
      by_cases hk : x = k
      · subst hk
        rw [if_pos rfl, show Op.lookupswitch.offset ((x, v) :: r) d x = v by simp [Op.lookupswitch.offset]]
        exact h.1
      · rw [if_neg hk, show Op.lookupswitch.offset ((k, v) :: r) d x = Op.lookupswitch.offset r d x by simp [Op.lookupswitch.offset, Ne.symm hk, hk]]
        exact ih rt h.2
theorem xflow_ok (hx : p.tables.exec = Jvm.exec) (hb : c.code = cc) {own : String} (hown : s.vm.findClass own = some m.cls) {Gw : List Cond} (hts : ∀ w ∈ Gw, w.before args s = true) {nE nL : Nat} (hE : ∀ a b, a < nE → b < nE → sa a = sa b → a = b) {i : XI} {lv : XLv} {st : List Value} {r : Nat × (XLv × List Value)} (h : xflow nE nL i pc lv st = some r) (hok : xokF Gw own i pc) (hd : decode cc pc = .ok (i.1, xle i)) (hl : lv_has ls nL (xV sa lv)) (k : ∀ ls : Array Slot, lv_has ls nL (xV sa r.2.1) → W p l e R s m args below meth c H locs cells slots Q (F0 m r.1 ls (xL sa r.2.2))) : W p l e R s m args below meth c H locs cells slots Q (F0 m pc ls (xL sa st)) := by
  have gS : ∀ {n : Nat} {q : Option (List Value)}, xgoS n lv q = some r → ∃ st', q = some st' ∧ r = (n, (lv, st')) := fun {n q} z => by
    cases q with
    | none => cases z
    | some st' => exact ⟨st', rfl, (Option.some.inj z).symm⟩
  have gV : ∀ {n : Nat} {q : Option (XLv × List Value)}, xgoV n q = some r → ∃ q', q = some q' ∧ r = (n, q') := fun {n q} z => by
    cases q with
    | none => cases z
    | some st' => exact ⟨st', rfl, (Option.some.inj z).symm⟩
  have gI : ∀ {n : Nat} {q : Option XLv}, xgoI n st q = some r → ∃ q', q = some q' ∧ r = (n, (q', st)) := fun {n q} z => by
    cases q with
    | none => cases z
    | some st' => exact ⟨st', rfl, (Option.some.inj z).symm⟩
  have gB : ∀ {q : Option (Nat × List Value)}, xgoB lv q = some r → ∃ q', q = some q' ∧ r = (q'.1, (lv, q'.2)) := fun {q} z => by
    cases q with
    | none => cases z
    | some st' => exact ⟨st', rfl, (Option.some.inj z).symm⟩
  obtain ⟨i, ⟨a, a2⟩, vs, ts⟩ := i
  cases i
  case iload j =>
    obtain ⟨st', h1, rfl⟩ := gS h
    exact xiload_ok hx hb h1 hd hl (k ls hl)
  case istore j =>
    obtain ⟨q, h1, rfl⟩ := gV h
    exact xistore_ok hx hb h1 hd hl k
  case iload_n j =>
    obtain ⟨st', h1, rfl⟩ := gS h
    exact xiload_n_ok hx hb h1 hd hl (k ls hl)
  case istore_n j =>
    obtain ⟨q, h1, rfl⟩ := gV h
    exact xistore_n_ok hx hb h1 hd hl k
  case lload j =>
    obtain ⟨st', h1, rfl⟩ := gS h
    exact xlload_ok hx hb h1 hd hl (k ls hl)
  case lstore j =>
    obtain ⟨q, h1, rfl⟩ := gV h
    exact xlstore_ok hx hb h1 hd hl k
  case lload_n j =>
    obtain ⟨st', h1, rfl⟩ := gS h
    exact xlload_n_ok hx hb h1 hd hl (k ls hl)
  case lstore_n j =>
    obtain ⟨q, h1, rfl⟩ := gV h
    exact xlstore_n_ok hx hb h1 hd hl k
  case fload j =>
    obtain ⟨st', h1, rfl⟩ := gS h
    exact xfload_ok hx hb h1 hd hl (k ls hl)
  case fstore j =>
    obtain ⟨q, h1, rfl⟩ := gV h
    exact xfstore_ok hx hb h1 hd hl k
  case fload_n j =>
    obtain ⟨st', h1, rfl⟩ := gS h
    exact xfload_n_ok hx hb h1 hd hl (k ls hl)
  case fstore_n j =>
    obtain ⟨q, h1, rfl⟩ := gV h
    exact xfstore_n_ok hx hb h1 hd hl k
  case dload j =>
    obtain ⟨st', h1, rfl⟩ := gS h
    exact xdload_ok hx hb h1 hd hl (k ls hl)
  case dstore j =>
    obtain ⟨q, h1, rfl⟩ := gV h
    exact xdstore_ok hx hb h1 hd hl k
  case dload_n j =>
    obtain ⟨st', h1, rfl⟩ := gS h
    exact xdload_n_ok hx hb h1 hd hl (k ls hl)
  case dstore_n j =>
    obtain ⟨q, h1, rfl⟩ := gV h
    exact xdstore_n_ok hx hb h1 hd hl k
  case aload j =>
    obtain ⟨st', h1, rfl⟩ := gS h
    exact xaload_ok hx hb h1 hd hl (k ls hl)
  case astore j =>
    obtain ⟨q, h1, rfl⟩ := gV h
    exact xastore_ok hx hb h1 hd hl k
  case aload_n j =>
    obtain ⟨st', h1, rfl⟩ := gS h
    exact xaload_n_ok hx hb h1 hd hl (k ls hl)
  case astore_n j =>
    obtain ⟨q, h1, rfl⟩ := gV h
    exact xastore_n_ok hx hb h1 hd hl k
  case iinc j n =>
    obtain ⟨q, h1, rfl⟩ := gI h
    exact xiinc_ok hx hb h1 hok hd hl k
  case iconst n =>
    obtain ⟨q, h1, rfl⟩ := gS h
    have hok : vs = [.int (Int32.ofInt n)] := hok
    subst hok
    cases h1
    exact lv_iconst hx hb hd rfl (k ls hl)
  case bipush n =>
    obtain ⟨q, h1, rfl⟩ := gS h
    have hok : vs = [.int (Int8.ofInt n).toInt32] := hok
    subst hok
    cases h1
    exact lv_bipush hx hb hd rfl (k ls hl)
  case sipush n =>
    obtain ⟨q, h1, rfl⟩ := gS h
    have hok : vs = [.int (Int16.ofInt n).toInt32] := hok
    subst hok
    cases h1
    exact lv_sipush hx hb hd rfl (k ls hl)
  case lconst n =>
    obtain ⟨q, h1, rfl⟩ := gS h
    have hok : vs = [.long (Int64.ofNat (n : Nat))] := hok
    subst hok
    cases h1
    exact lv_lconst hx hb hd rfl (k ls hl)
  case ldc n =>
    obtain ⟨q, h1, rfl⟩ := gS h
    rcases hok with ⟨x, hv, hw⟩ | ⟨x, hv⟩
    · have hv : vs = [.int x] := hv
      subst hv
      cases h1
      exact lv_ldc hx hb hown (hts _ hw) hd (k ls hl)
    · have hv : vs = [.ref x] := hv
      subst hv
      cases h1
  case ldc_w n =>
    obtain ⟨q, h1, rfl⟩ := gS h
    obtain ⟨x, hv, hw⟩ := hok
    have hv : vs = [.int x] := hv
    subst hv
    cases h1
    exact lv_ldcw hx hb hown (hts _ hw) hd (k ls hl)
  case ldc2_w n =>
    obtain ⟨q, h1, rfl⟩ := gS h
    rcases hok with ⟨x, hv, hw⟩ | ⟨x, hv, hw⟩
    · have hv : vs = [.long x] := hv
      subst hv
      cases h1
      exact lv_ldc2 hx hb hown (hts _ hw) hd (k ls hl)
    · have hv : vs = [.double x] := hv
      subst hv
      cases h1
      exact lv_ldc2d hx hb hown (hts _ hw) hd (k ls hl)
  case goto d =>
    cases h
    exact lv_goto hx hb hd hok (k ls hl)
  case ifCond q d =>
    obtain ⟨q', h1, rfl⟩ := gB h
    exact xcm1_ok hx hb h1 hok hd (k ls hl)
  case if_icmp q d =>
    obtain ⟨q', h1, rfl⟩ := gB h
    exact xcm2_ok hx hb h1 hok hd (k ls hl)
  case if_acmp q d =>
    obtain ⟨q', h1, rfl⟩ := gB h
    exact xcma_ok hx hb hE h1 hok hd (k ls hl)
  case ifnull d =>
    obtain ⟨q', h1, rfl⟩ := gB h
    unfold xnul at h1
    split at h1
    · cases h1
      exact lv_ifnullN hx hb hd hok (k ls hl)
    · cases h1
      exact lv_ifnull hx hb hd (k ls hl)
    · cases h1
  case ifnonnull d =>
    obtain ⟨q', h1, rfl⟩ := gB h
    unfold xnul at h1
    split at h1
    · cases h1
      exact lv_ifnonnullN hx hb hd (k ls hl)
    · cases h1
      exact lv_ifnonnull hx hb hd hok (k ls hl)
    · cases h1
  case tableswitch d lo hi offs =>
    obtain ⟨q', h1, rfl⟩ := gB h
    obtain ⟨o1, o2⟩ := hok
    unfold xswt at h1
    split at h1
    · rename_i x r0
      cases ht : xtab lo hi a ts x.toInt with
      | none =>
        have h1 : Option.map (fun t => (t, r0)) (xtab lo hi a ts x.toInt) = some q' := h1
        rw [ht] at h1; cases h1
      | some t =>
        have h1 : Option.map (fun t => (t, r0)) (xtab lo hi a ts x.toInt) = some q' := h1
        rw [ht] at h1
        cases h1
        unfold xtab at ht
        by_cases hc : x.toInt < lo ∨ hi < x.toInt
        · rw [if_pos hc] at ht
          cases ht
          exact lv_tableOut hx hb hd hc o1 (k ls hl)
        · rw [if_neg hc] at ht
          have o2 : offs.toList.map (fun q => (pc : Int) + q) = ts.map (fun t : Nat => (t : Int)) := o2
          have h3 : (offs.toList.map (fun q => (pc : Int) + q))[(x.toInt - lo).toNat]? = some (t : Int) := by
            rw [o2, List.getElem?_map, ht]; rfl
          rw [List.getElem?_map, Array.getElem?_toList] at h3
          cases hq : offs[(x.toInt - lo).toNat]? with
          | none => rw [hq] at h3; cases h3
          | some off =>
            rw [hq] at h3
            exact lv_tableIn hx hb hd (fun z => hc (Or.inl z)) (fun z => hc (Or.inr z)) hq (Option.some.inj h3) (k ls hl)
    · cases h1
  case lookupswitch d ps =>
    obtain ⟨q', h1, rfl⟩ := gB h
    obtain ⟨o1, o2, o3⟩ := hok
    unfold xswl at h1
    split at h1
    · rename_i x r0
      cases h1
      exact lv_lookup hx hb hd o3 rfl (xlook_ok o1 x.toInt ps.toList ts o2) (k ls hl)
    · cases h1
  all_goals
    unfold xflow at h
    dsimp only at h
    obtain ⟨st', h1, rfl⟩ := gS h
    exact xst_ok hx hb h1 hd (k ls hl)
end XS2
