/-! the deep machine: a small interpreter over decoded rows, tied to the machine once and for all -/
abbrev XE : Type := (Nat × vp_A) ⊕ (Nat × List Value)
abbrev XH : Type := (Nat → Option XE) × (Option Nat × (Nat × Nat))
abbrev XK : Type := (Nat × Nat) × (List Value × List Nat)
abbrev XI : Type := Instr × XK
abbrev XLv : Type := List (Nat × Value)
/-- a reference k of the deep machine stands for the address sa k -/
def xs (sa : Nat → Nat) (v : Value) : Value := match v with
  | .ref a => .ref (sa a)
  | w => w
theorem xs_cat (sa : Nat → Nat) (v : Value) : (xs sa v).category = v.category := by cases v <;> rfl
def xL (sa : Nat → Nat) (st : List Value) : List Value := st.map (xs sa)
def xV (sa : Nat → Nat) (lv : XLv) : XLv := lv.map (fun q => (q.1, xs sa q.2))
theorem xL_cons {sa : Nat → Nat} {v : Value} {st : List Value} : xL sa (v :: st) = xs sa v :: xL sa st := rfl
theorem xL_app {sa : Nat → Nat} {a b : List Value} : xL sa (a ++ b) = xL sa a ++ xL sa b := List.map_append
theorem xL_rev {sa : Nat → Nat} {a : List Value} : xL sa a.reverse = (xL sa a).reverse := List.map_reverse
theorem xL_cats (sa : Nat → Nat) (st : List Value) : ((xL sa st).map fun v => v.category) = st.map fun v => v.category := by
  unfold xL
  rw [List.map_map]
  exact List.map_congr_left (fun v _ => xs_cat sa v)
def xII (f : Int32 → Int32 → Int32) (st : List Value) : Option (List Value) := match st with
  | .int y :: .int x :: r => some (.int (f x y) :: r)
  | _ => none
def xIIz (f : Int32 → Int32 → Int32) (st : List Value) : Option (List Value) := match st with
  | .int y :: .int x :: r => if y = 0 then none else some (.int (f x y) :: r)
  | _ => none
def xLL (f : Int64 → Int64 → Int64) (st : List Value) : Option (List Value) := match st with
  | .long y :: .long x :: r => some (.long (f x y) :: r)
  | _ => none
def xLI (f : Int64 → Int32 → Int64) (st : List Value) : Option (List Value) := match st with
  | .int y :: .long x :: r => some (.long (f x y) :: r)
  | _ => none
def xI1 (f : Int32 → Value) (st : List Value) : Option (List Value) := match st with
  | .int x :: r => some (f x :: r)
  | _ => none
def xL1 (f : Int64 → Value) (st : List Value) : Option (List Value) := match st with
  | .long x :: r => some (f x :: r)
  | _ => none
def xLC (st : List Value) : Option (List Value) := match st with
  | .long y :: .long x :: r => some (.int (lg_cmp x y) :: r)
  | _ => none
def xFC (f : UInt32 → UInt32 → Int32) (st : List Value) : Option (List Value) := match st with
  | .float y :: .float x :: r => some (.int (f x y) :: r)
  | _ => none
def xDC (f : UInt64 → UInt64 → Int32) (st : List Value) : Option (List Value) := match st with
  | .double y :: .double x :: r => some (.int (f x y) :: r)
  | _ => none
def xFD (st : List Value) : Option (List Value) := match st with
  | .float y :: .float x :: r => if FP.fdiv x y &&& 0x7fffffff ≤ 0x7f800000 then some (.float (FP.fdiv x y) :: r) else none
  | _ => none
def xDD (st : List Value) : Option (List Value) := match st with
  | .double y :: .double x :: r => if FP.ddiv x y &&& 0x7fffffffffffffff ≤ 0x7ff0000000000000 then some (.double (FP.ddiv x y) :: r) else none
  | _ => none
def xF2D (st : List Value) : Option (List Value) := match st with
  | .float x :: r => if FP.f2d x &&& 0x7fffffffffffffff ≤ 0x7ff0000000000000 then some (.double (FP.f2d x) :: r) else none
  | _ => none
def xDup (st : List Value) : Option (List Value) := match st with
  | v :: r => if v.category = 1 then some (v :: v :: r) else none
  | _ => none
def xPop (st : List Value) : Option (List Value) := match st with
  | v :: r => if v.category = 1 then some r else none
  | _ => none
def xDup2 (st : List Value) : Option (List Value) := match st with
  | v :: w :: r => if v.category = 1 ∧ w.category = 1 then some (v :: w :: v :: w :: r) else none
  | _ => none
def xDupX1 (st : List Value) : Option (List Value) := match st with
  | v :: w :: r => if v.category = 1 ∧ w.category = 1 then some (v :: w :: v :: r) else none
  | _ => none
def xDupX2 (st : List Value) : Option (List Value) := match st with
  | v :: w :: u :: r => if v.category = 1 ∧ w.category = 1 ∧ u.category = 1 then some (v :: w :: u :: v :: r) else none
  | _ => none
def xst (i : Instr) (st : List Value) : Option (List Value) := match i with
  | .iadd => xII (fun x y => x + y) st
  | .isub => xII (fun x y => x - y) st
  | .imul => xII (fun x y => x * y) st
  | .iand => xII (fun x y => x &&& y) st
  | .ior => xII (fun x y => x ||| y) st
  | .ixor => xII (fun x y => x ^^^ y) st
  | .ishl => xII (fun x y => x <<< (y &&& 31)) st
  | .ishr => xII (fun x y => x >>> (y &&& 31)) st
  | .iushr => xII (fun x y => (x.toUInt32 >>> (y.toUInt32 &&& Int32.toUInt32 31)).toInt32) st
  | .idiv => xIIz (fun x y => x / y) st
  | .irem => xIIz (fun x y => x - x / y * y) st
  | .ladd => xLL (fun x y => x + y) st
  | .lsub => xLL (fun x y => x - y) st
  | .lmul => xLL (fun x y => x * y) st
  | .land => xLL (fun x y => x &&& y) st
  | .lor => xLL (fun x y => x ||| y) st
  | .lxor => xLL (fun x y => x ^^^ y) st
  | .lushr => xLI (fun x y => (x.toUInt64 >>> (y.toInt64.toUInt64 &&& Int64.toUInt64 63)).toInt64) st
  | .lshl => xLI (fun x y => x <<< (y.toInt64 &&& 63)) st
  | .lshr => xLI (fun x y => x >>> (y.toInt64 &&& 63)) st
  | .lcmp => xLC st
  | .ineg => xI1 (fun x => .int (-x)) st
  | .i2l => xI1 (fun x => .long x.toInt64) st
  | .i2c => xI1 (fun x => .int ((x.toUInt32 % 65536).toInt32)) st
  | .i2b => xI1 (fun x => .int (x.toInt8.toInt32)) st
  | .i2f => xI1 (fun x => .float (FP.i2f x)) st
  | .i2d => xI1 (fun x => .double (FP.i2d x)) st
  | .l2i => xL1 (fun x => .int x.toInt32) st
  | .lneg => xL1 (fun x => .long (-x)) st
  | .fdiv => xFD st
  | .ddiv => xDD st
  | .f2d => xF2D st
  | .dup => xDup st
  | .pop => xPop st
  | .dup2 => xDup2 st
  | .dup_x1 => xDupX1 st
  | .dup_x2 => xDupX2 st
  | .aconst_null => some (.null :: st)
  | .fcmp k => xFC (fun x y => Op.cmpValue (FP.fcmp x y) k) st
  | .dcmp k => xDC (fun x y => Op.cmpValue (FP.dcmp x y) k) st
  | .fconst k => if k = 0 then some (.float FP.fconst0 :: st) else if k = 1 then some (.float FP.fconst1 :: st) else none
  | .dconst k => if k = 0 then some (.double FP.dconst0 :: st) else none
  | _ => none
def xlen (i : Instr) : Nat := match i with
  | .bipush _ | .iload _ | .aload _ | .lload _ | .fload _ | .dload _ | .istore _ | .astore _ | .lstore _ | .fstore _ | .dstore _ | .ldc _ | .newarray _ => 2
  | .sipush _ | .iinc _ _ | .goto _ | .ifCond _ _ | .if_icmp _ _ | .if_acmp _ _ | .ifnull _ | .ifnonnull _ | .getfield _ | .putfield _ | .getstatic _ | .invokevirtual _ | .invokestatic _ | .invokespecial _ | .new _ | .anewarray _ | .ldc_w _ | .ldc2_w _ => 3
  | .multianewarray _ _ => 4
  | _ => 1
theorem xII_of {f : Int32 → Int32 → Int32} {st st' : List Value} (h : xII f st = some st') : ∃ x y r, st = .int y :: .int x :: r ∧ st' = .int (f x y) :: r := by
  unfold xII at h
  split at h
  · exact ⟨_, _, _, rfl, (Option.some.inj h).symm⟩
  · cases h
theorem xIIz_of {f : Int32 → Int32 → Int32} {st st' : List Value} (h : xIIz f st = some st') : ∃ x y r, st = .int y :: .int x :: r ∧ st' = .int (f x y) :: r ∧ ¬ y = 0 := by
  unfold xIIz at h
  split at h
  · split at h
    · cases h
    · exact ⟨_, _, _, rfl, (Option.some.inj h).symm, by assumption⟩
  · cases h
theorem xLL_of {f : Int64 → Int64 → Int64} {st st' : List Value} (h : xLL f st = some st') : ∃ x y r, st = .long y :: .long x :: r ∧ st' = .long (f x y) :: r := by
  unfold xLL at h
  split at h
  · exact ⟨_, _, _, rfl, (Option.some.inj h).symm⟩
  · cases h
theorem xLI_of {f : Int64 → Int32 → Int64} {st st' : List Value} (h : xLI f st = some st') : ∃ x y r, st = .int y :: .long x :: r ∧ st' = .long (f x y) :: r := by
  unfold xLI at h
  split at h
  · exact ⟨_, _, _, rfl, (Option.some.inj h).symm⟩
  · cases h
theorem xLC_of {st st' : List Value} (h : xLC st = some st') : ∃ x y r, st = .long y :: .long x :: r ∧ st' = .int (lg_cmp x y) :: r := by
  unfold xLC at h
  split at h
  · exact ⟨_, _, _, rfl, (Option.some.inj h).symm⟩
  · cases h
theorem xFC_of {f : UInt32 → UInt32 → Int32} {st st' : List Value} (h : xFC f st = some st') : ∃ x y r, st = .float y :: .float x :: r ∧ st' = .int (f x y) :: r := by
  unfold xFC at h
  split at h
  · exact ⟨_, _, _, rfl, (Option.some.inj h).symm⟩
  · cases h
theorem xDC_of {f : UInt64 → UInt64 → Int32} {st st' : List Value} (h : xDC f st = some st') : ∃ x y r, st = .double y :: .double x :: r ∧ st' = .int (f x y) :: r := by
  unfold xDC at h
  split at h
  · exact ⟨_, _, _, rfl, (Option.some.inj h).symm⟩
  · cases h
theorem xI1_of {f : Int32 → Value} {st st' : List Value} (h : xI1 f st = some st') : ∃ x r, st = .int x :: r ∧ st' = f x :: r := by
  unfold xI1 at h
  split at h
  · exact ⟨_, _, rfl, (Option.some.inj h).symm⟩
  · cases h
theorem xL1_of {f : Int64 → Value} {st st' : List Value} (h : xL1 f st = some st') : ∃ x r, st = .long x :: r ∧ st' = f x :: r := by
  unfold xL1 at h
  split at h
  · exact ⟨_, _, rfl, (Option.some.inj h).symm⟩
  · cases h
theorem xFD_of {st st' : List Value} (h : xFD st = some st') : ∃ x y r, st = .float y :: .float x :: r ∧ st' = .float (FP.fdiv x y) :: r ∧ vf_n32 (FP.fdiv x y) := by
  unfold xFD at h
  split at h
  · split at h
    · exact ⟨_, _, _, rfl, (Option.some.inj h).symm, by unfold vf_n32; assumption⟩
    · cases h
  · cases h
theorem xDD_of {st st' : List Value} (h : xDD st = some st') : ∃ x y r, st = .double y :: .double x :: r ∧ st' = .double (FP.ddiv x y) :: r ∧ vf_n64 (FP.ddiv x y) := by
  unfold xDD at h
  split at h
  · split at h
    · exact ⟨_, _, _, rfl, (Option.some.inj h).symm, by unfold vf_n64; assumption⟩
    · cases h
  · cases h
theorem xF2D_of {st st' : List Value} (h : xF2D st = some st') : ∃ x r, st = .float x :: r ∧ st' = .double (FP.f2d x) :: r ∧ vf_n64 (FP.f2d x) := by
  unfold xF2D at h
  split at h
  · split at h
    · exact ⟨_, _, rfl, (Option.some.inj h).symm, by unfold vf_n64; assumption⟩
    · cases h
  · cases h
theorem xDup_of {st st' : List Value} (h : xDup st = some st') : ∃ v r, st = v :: r ∧ st' = v :: v :: r ∧ v.category = 1 := by
  unfold xDup at h
  split at h
  · split at h
    · exact ⟨_, _, rfl, (Option.some.inj h).symm, by assumption⟩
    · cases h
  · cases h
theorem xPop_of {st st' : List Value} (h : xPop st = some st') : ∃ v, st = v :: st' ∧ v.category = 1 := by
  unfold xPop at h
  split at h
  · split at h
    · cases h
      exact ⟨_, rfl, by assumption⟩
    · cases h
  · cases h
theorem xDup2_of {st st' : List Value} (h : xDup2 st = some st') : ∃ v w r, st = v :: w :: r ∧ st' = v :: w :: v :: w :: r ∧ v.category = 1 ∧ w.category = 1 := by
  unfold xDup2 at h
  split at h
  · split at h
    · rename_i hq
      exact ⟨_, _, _, rfl, (Option.some.inj h).symm, hq.1, hq.2⟩
    · cases h
  · cases h
theorem xDupX1_of {st st' : List Value} (h : xDupX1 st = some st') : ∃ v w r, st = v :: w :: r ∧ st' = v :: w :: v :: r ∧ v.category = 1 ∧ w.category = 1 := by
  unfold xDupX1 at h
  split at h
  · split at h
    · rename_i hq
      exact ⟨_, _, _, rfl, (Option.some.inj h).symm, hq.1, hq.2⟩
    · cases h
  · cases h
theorem xDupX2_of {st st' : List Value} (h : xDupX2 st = some st') : ∃ v w u r, st = v :: w :: u :: r ∧ st' = v :: w :: u :: v :: r ∧ v.category = 1 ∧ w.category = 1 ∧ u.category = 1 := by
  unfold xDupX2 at h
  split at h
  · split at h
    · rename_i hq
      exact ⟨_, _, _, _, rfl, (Option.some.inj h).symm, hq.1, hq.2.1, hq.2.2⟩
    · cases h
  · cases h
section XS1
variable {p : Program} {l : Launch} {e : Env} {R : Room} {s : State} {m : MethodId} {args : Array Value} {below : List Frame} {meth : Method} {c : Code} {H : Heap} {locs : List Loc} {cells slots : Nat} {Q : State → Prop} {cc : ByteArray} {pc : Nat} {ls : Array Slot} {sa : Nat → Nat}
set_option maxHeartbeats 4000000 in
theorem xst_ok (hx : p.tables.exec = Jvm.exec) (hb : c.code = cc) {i : Instr} {st st' : List Value} (h : xst i st = some st') (hd : decode cc pc = .ok (i, xlen i)) (k : W p l e R s m args below meth c H locs cells slots Q (F0 m (pc + xlen i) ls (xL sa st'))) : W p l e R s m args below meth c H locs cells slots Q (F0 m pc ls (xL sa st)) := by
  cases i
  case iadd =>
    obtain ⟨x, y, r, rfl, rfl⟩ := xII_of h
    exact lv_iadd hx hb hd k
  case isub =>
    obtain ⟨x, y, r, rfl, rfl⟩ := xII_of h
    exact lv_isub hx hb hd k
  case imul =>
    obtain ⟨x, y, r, rfl, rfl⟩ := xII_of h
    exact lv_imul hx hb hd k
  case iand =>
    obtain ⟨x, y, r, rfl, rfl⟩ := xII_of h
    exact lv_iand hx hb hd k
  case ior =>
    obtain ⟨x, y, r, rfl, rfl⟩ := xII_of h
    exact lv_ior hx hb hd k
  case ixor =>
    obtain ⟨x, y, r, rfl, rfl⟩ := xII_of h
    exact lv_ixor hx hb hd k
  case ishl =>
    obtain ⟨x, y, r, rfl, rfl⟩ := xII_of h
    exact lv_ishl hx hb hd k
  case ishr =>
    obtain ⟨x, y, r, rfl, rfl⟩ := xII_of h
    exact lv_ishr hx hb hd k
  case iushr =>
    obtain ⟨x, y, r, rfl, rfl⟩ := xII_of h
    exact lv_iushr hx hb hd rfl k
  case idiv =>
    obtain ⟨x, y, r, rfl, rfl, hne⟩ := xIIz_of h
    exact lv_idiv hx hb hd hne k
  case irem =>
    obtain ⟨x, y, r, rfl, rfl, hne⟩ := xIIz_of h
    exact lv_irem hx hb hd hne k
  case ladd =>
    obtain ⟨x, y, r, rfl, rfl⟩ := xLL_of h
    exact lv_ladd hx hb hd k
  case lsub =>
    obtain ⟨x, y, r, rfl, rfl⟩ := xLL_of h
    exact lv_lsub hx hb hd k
  case lmul =>
    obtain ⟨x, y, r, rfl, rfl⟩ := xLL_of h
    exact lv_lmul hx hb hd k
  case land =>
    obtain ⟨x, y, r, rfl, rfl⟩ := xLL_of h
    exact lv_land hx hb hd k
  case lor =>
    obtain ⟨x, y, r, rfl, rfl⟩ := xLL_of h
    exact lv_lor hx hb hd k
  case lxor =>
    obtain ⟨x, y, r, rfl, rfl⟩ := xLL_of h
    exact lv_lxor hx hb hd k
  case lushr =>
    obtain ⟨x, y, r, rfl, rfl⟩ := xLI_of h
    exact lv_lushr hx hb hd rfl k
  case lshl =>
    obtain ⟨x, y, r, rfl, rfl⟩ := xLI_of h
    exact lv_lshl hx hb hd rfl k
  case lshr =>
    obtain ⟨x, y, r, rfl, rfl⟩ := xLI_of h
    exact lv_lshr hx hb hd rfl k
  case lcmp =>
    obtain ⟨x, y, r, rfl, rfl⟩ := xLC_of h
    exact W.lcmp hx hb hd k
  case ineg =>
    obtain ⟨x, r, rfl, rfl⟩ := xI1_of h
    exact lv_ineg hx hb hd k
  case i2l =>
    obtain ⟨x, r, rfl, rfl⟩ := xI1_of h
    exact lv_i2l hx hb hd rfl k
  case i2c =>
    obtain ⟨x, r, rfl, rfl⟩ := xI1_of h
    exact lv_i2c hx hb hd rfl k
  case i2b =>
    obtain ⟨x, r, rfl, rfl⟩ := xI1_of h
    exact lv_i2b hx hb hd rfl k
  case i2f =>
    obtain ⟨x, r, rfl, rfl⟩ := xI1_of h
    exact lv_i2f hx hb hd k
  case i2d =>
    obtain ⟨x, r, rfl, rfl⟩ := xI1_of h
    exact lv_i2d hx hb hd k
  case l2i =>
    obtain ⟨x, r, rfl, rfl⟩ := xL1_of h
    exact lv_l2i hx hb hd rfl k
  case lneg =>
    obtain ⟨x, r, rfl, rfl⟩ := xL1_of h
    exact lv_lneg hx hb hd k
  case fdiv =>
    obtain ⟨x, y, r, rfl, rfl, hne⟩ := xFD_of h
    exact lv_fdiv hx hb hd hne k
  case ddiv =>
    obtain ⟨x, y, r, rfl, rfl, hne⟩ := xDD_of h
    exact lv_ddiv hx hb hd hne k
  case f2d =>
    obtain ⟨x, r, rfl, rfl, hne⟩ := xF2D_of h
    exact lv_f2d hx hb hd hne k
  case dup =>
    obtain ⟨v, r, rfl, rfl, h1⟩ := xDup_of h
    exact lv_dup hx hb hd (by rw [xs_cat]; exact h1) k
  case pop =>
    obtain ⟨v, rfl, h1⟩ := xPop_of h
    exact lv_pop hx hb hd (by rw [xs_cat]; exact h1) k
  case dup2 =>
    obtain ⟨v, w, r, rfl, rfl, h1, h2⟩ := xDup2_of h
    exact lv_dup2_11 hx hb hd (by rw [xs_cat]; exact h1) (by rw [xs_cat]; exact h2) k
  case dup_x1 =>
    obtain ⟨v, w, r, rfl, rfl, h1, h2⟩ := xDupX1_of h
    exact lv_dup_x1 hx hb hd (by rw [xs_cat]; exact h1) (by rw [xs_cat]; exact h2) k
  case dup_x2 =>
    obtain ⟨v, w, u, r, rfl, rfl, h1, h2, h3⟩ := xDupX2_of h
    exact lv_dup_x2 hx hb hd (by rw [xs_cat]; exact h1) (by rw [xs_cat]; exact h2) (by rw [xs_cat]; exact h3) k
  case aconst_null =>
    cases h
    exact lv_null hx hb hd k
  case fcmp q =>
    obtain ⟨x, y, r, rfl, rfl⟩ := xFC_of h
    exact lv_fcmp hx hb hd k
  case dcmp q =>
    obtain ⟨x, y, r, rfl, rfl⟩ := xDC_of h
    exact lv_dcmp hx hb hd k
  case fconst q =>
    have h : (if q = 0 then some (Value.float FP.fconst0 :: st) else if q = 1 then some (Value.float FP.fconst1 :: st) else none) = some st' := h
    by_cases hq : q = 0
    · subst hq
      rw [if_pos rfl] at h
      cases h
      exact lv_fconst0 hx hb hd k
    · rw [if_neg hq] at h
      by_cases hq1 : q = 1
      · subst hq1
        rw [if_pos rfl] at h
        cases h
        exact lv_fconst1 hx hb hd k
      · rw [if_neg hq1] at h
        cases h
  case dconst q =>
    have h : (if q = 0 then some (Value.double FP.dconst0 :: st) else none) = some st' := h
    by_cases hq : q = 0
    · subst hq
      rw [if_pos rfl] at h
      cases h
      exact lv_dconst0 hx hb hd k
    · rw [if_neg hq] at h
      cases h
  all_goals exact absurd h (by intro q; cases q)
end XS1
