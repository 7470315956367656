/-! the deep machine's run is the machine's -/
abbrev XM : Type := (Nat → MethodName) × ((Nat → ByteArray) × ((Nat → Option FieldType) × (Nat → List (Nat × Nat × Nat × Nat))))
def xEn (E : Nat) : String := match E with
  | 0 => "java/lang/IllegalStateException"
  | 1 => "java/lang/IllegalArgumentException"
  | 2 => "java/lang/IndexOutOfBoundsException"
  | 3 => "java/lang/ArithmeticException"
  | 4 => "java/lang/UnsupportedOperationException"
  | _ => "java/util/NoSuchElementException"
def xrtok (rt : Nat) (T : Option FieldType) : Prop := match rt with
  | 0 => T = some .int
  | 1 => T = some .boolean
  | 2 => T = some .char
  | 3 => T = some .long
  | 4 => T = some .float
  | 5 => T = some .double
  | 6 => ∃ t, T = some t ∧ ((∃ n, t = .object n) ∨ ∃ u, t = .array u)
  | 7 => T = none
  | 8 => T = some .byte
  | _ => False
def xcode (T : XT) (M : XM) (i : Nat) : Jvm.Cond := match M.2.2.2 i with
  | [] => .code (M.1 i) (M.2.1 i) (T.2.1 i).1 (M.2.2.1 i)
  | q :: r => .codeWith (M.1 i) (M.2.1 i) (T.2.1 i).1 (M.2.2.1 i) (q :: r)
/-- a method's own row -/
def xokM (T : XT) (M : XM) (i : Nat) : Prop := plainName (M.1 i).cls = true ∧ xrtok (T.2.1 i).2.1 (M.2.2.1 i) ∧ (M.1 i).cls ≠ "java/lang/invoke/MethodHandle" ∧ (M.1 i).cls ≠ "java/lang/invoke/VarHandle" ∧ (T.2.1 i).1 ≤ 60
def xokN2 (M : XM) (i n : Nat) : Prop := (parseMethodDescriptor (M.1 i).desc).map (fun d => d.parameters.length) = some n
/-- a call's row -/
def xokC (T : XT) (M : XM) (cl : List vw_C) (Gw Gn : List Jvm.Cond) (xokX : String → XI → Prop) (own : String) (e : XI) : Prop := match e.2.2.2.headD 9 with
  | 0 => ∃ i, e.1 = .invokevirtual i ∧ Cond.methodLink own i (M.1 e.2.1.1) ∈ Gw ∧ Cond.instanceMethod (M.1 e.2.1.1) ∈ Gw ∧ Cond.initialized (M.1 e.2.1.1).cls ∈ Gw ∧ M.2.2.2 e.2.1.1 = [] ∧ xcode T M e.2.1.1 ∈ Gw ∧ (∃ n, xokN2 M e.2.1.1 n ∧ e.2.1.2 = n + 1) ∧ ∃ C : String, ((T.2.1 e.2.1.1).2.2 = 200 ∧ C = "java/lang/String" ∨ (T.2.1 e.2.1.1).2.2 ≠ 200 ∧ ∃ r, cl[(T.2.1 e.2.1.1).2.2]? = some r ∧ r.1 = C) ∧ Cond.selects C (M.1 e.2.1.1) (M.1 e.2.1.1) ∈ Gw
  | 1 => ∃ i, e.1 = .invokestatic i ∧ Cond.methodLink own i (M.1 e.2.1.1) ∈ Gw ∧ Cond.static (M.1 e.2.1.1) ∈ Gw ∧ Cond.initialized (M.1 e.2.1.1).cls ∈ Gw ∧ M.2.2.2 e.2.1.1 = [] ∧ xcode T M e.2.1.1 ∈ Gw ∧ xokN2 M e.2.1.1 e.2.1.2
  | 2 => ∃ i, e.1 = .invokespecial i ∧ (Cond.methodLink own i (M.1 e.2.1.1) ∈ Gw ∨ ∃ host, Cond.methodLinkNest own i (M.1 e.2.1.1) host ∈ Gn) ∧ (M.1 e.2.1.1).name = "<init>" ∧ Cond.instanceMethod (M.1 e.2.1.1) ∈ Gw ∧ Cond.initialized (M.1 e.2.1.1).cls ∈ Gw ∧ M.2.2.2 e.2.1.1 = [] ∧ M.2.2.1 e.2.1.1 = none ∧ xcode T M e.2.1.1 ∈ Gw ∧ ∃ n, xokN2 M e.2.1.1 n ∧ e.2.1.2 = n + 1
  | 3 => (∃ i, e.1 = .invokestatic i ∧ Cond.static (M.1 e.2.1.1) ∈ Gw ∧ Cond.initialized (M.1 e.2.1.1).cls ∈ Gw ∧ xcode T M e.2.1.1 ∈ Gw ∧ xokN2 M e.2.1.1 e.2.1.2 ∧ ((M.2.2.2 e.2.1.1 = [] ∧ ∃ host, Cond.methodLinkNest own i (M.1 e.2.1.1) host ∈ Gn) ∨ (M.2.2.2 e.2.1.1 ≠ [] ∧ Cond.methodLink own i (M.1 e.2.1.1) ∈ Gw))) ∨ ∃ i, e.1 = .invokespecial i ∧ (M.1 e.2.1.1).name ≠ "<init>" ∧ Cond.methodLink own i (M.1 e.2.1.1) ∈ Gw ∧ Cond.sameMethod (M.1 e.2.1.1).cls (M.1 e.2.1.1).cls (M.1 e.2.1.1).name (M.1 e.2.1.1).desc ∈ Gw ∧ Cond.superclass own (M.1 e.2.1.1).cls ∈ Gw ∧ Cond.instanceMethod (M.1 e.2.1.1) ∈ Gw ∧ Cond.initialized (M.1 e.2.1.1).cls ∈ Gw ∧ M.2.2.2 e.2.1.1 = [] ∧ xcode T M e.2.1.1 ∈ Gw ∧ (∃ n, xokN2 M e.2.1.1 n ∧ e.2.1.2 = n + 1) ∧ ∃ cp r, (T.2.1 e.2.1.1).2.2 = 100 + cp ∧ cp < 100 ∧ cl[cp]? = some r
  | 4 => xokX own e
  | 5 => ∃ i, e.1 = .invokespecial i ∧ Cond.methodLink own i Lib.objectInit ∈ Gw ∧ Cond.instanceMethod Lib.objectInit ∈ Gw ∧ Cond.code Lib.objectInit ⟨#[0xb1]⟩ 1 none ∈ Gw ∧ e.2.1.2 = 1
  | _ => True
/-- a throw's row -/
def xokT (s0 : State) (M : XM) (own : String) (mid pc E : Nat) : Prop := ∃ (ik is ic sb : Nat) (text : String) (names : List String) (Y0 : String) (ix : Nat) (bts : ByteArray), M.2.2.2 mid = [] ∧
  decode (M.2.1 mid) pc = .ok (.new ik, 3) ∧ decode (M.2.1 mid) (pc + 3) = .ok (.dup, 1) ∧
  ((decode (M.2.1 mid) (pc + 4) = .ok (.ldc is, 2) ∧ decode (M.2.1 mid) (pc + 6) = .ok (.invokespecial ic, 3) ∧ decode (M.2.1 mid) (pc + 9) = .ok (.athrow, 1)) ∨
   (decode (M.2.1 mid) (pc + 4) = .ok (.ldc_w is, 3) ∧ decode (M.2.1 mid) (pc + 7) = .ok (.invokespecial ic, 3) ∧ decode (M.2.1 mid) (pc + 10) = .ok (.athrow, 1))) ∧
  Bundle.fit (xEn E) = true ∧ (Bundle.fit Y0 = true ∧ xsix ix bts) ∧ (∀ n ∈ names, Bundle.fit n = true) ∧ names.length ≤ 4 ∧ vk_R own is text sb s0 ∧
  (∀ w ∈ Cond.classLink own ik (xEn E) :: Cond.initialized (xEn E) :: (xqt own ic (xEn E) Y0 ix bts names).filter vx_no, vx_ot w = true) ∧
  ∀ (U : State) (a' : Array Value), s0.WarmedH U.vm → ∀ w ∈ Cond.classLink own ik (xEn E) :: Cond.initialized (xEn E) :: (xqt own ic (xEn E) Y0 ix bts names).filter vx_no, w.before a' U = true
/-- a table of handlers, theirs and ours -/
def xokK (Gw : List Jvm.Cond) (own : String) : List (Nat × (Nat × (Nat × Nat))) → List (Nat × Nat × Nat × Nat) → Prop
  | [], [] => True
  | q :: r, w :: t => q.1 = w.1 ∧ q.2.1 = w.2.1 ∧ q.2.2.1 = w.2.2.1 ∧ w.2.2.2 ≠ 0 ∧ (q.2.2.2 < 6 ∧ q.2.2.2 ≠ 3) ∧ Cond.classLink own w.2.2.2 (xEn q.2.2.2) ∈ Gw ∧ xokK Gw own r t
  | _, _ => False
def xAll (s0 : State) (T : XT) (M : XM) (cl : List vw_C) (Gw Gn : List Jvm.Cond) (sa : Nat → Nat) (xokX : String → XI → Prop) : Prop :=
  (∀ mid pc e, T.1 mid pc = some e → decode (M.2.1 mid) pc = .ok (e.1, xle e) ∧ xokF Gw (M.1 mid).cls e pc ∧ (xthr e = none → xokH s0 cl Gw Gn sa (M.1 mid).cls (M.1 mid).name e) ∧ (∀ q, ∀ st, xcall e st = some q → xokC T M cl Gw Gn xokX (M.1 mid).cls e ∧ (q.1 < 4 → xokM T M e.2.1.1)) ∧ (∀ E, xthr e = some E → E < 6 ∧ xokT s0 M (M.1 mid).cls mid pc E)) ∧
  (∀ mid, xokK Gw (M.1 mid).cls (T.2.2 mid) (M.2.2.2 mid)) ∧ (∀ w ∈ Gw, goodWord w = true) ∧ (∀ E, E < 6 → va_Nw (.castable (xEn E) (xEn E)) s0) ∧ (∀ E F, E < 6 → F < 6 → F ≠ 3 → E ≠ F → va_Nc (xEn E) (xEn F) s0)
/-- all that holds in a method that runs by the table -/
def xCy (s0 : State) (D : va_G) (cl : List vw_C) (xty : Nat → FieldType) (sa : Nat → Nat) (nr : Nat) (ro : Nat → Option (Nat × vp_A)) (Gw Gn : List Jvm.Cond) (T : XT) (M : XM) (l : Launch) (R : Room) (d mid : Nat) (p : Program) (s : State) (m : MethodId) (args : Array Value) (meth : Method) (c : Code) : Prop :=
  xCx s0 D cl xty sa nr ro Gw Gn p s m args meth c (M.2.1 mid) (M.1 mid).cls (M.1 mid).name ∧ c.maxLocals = (T.2.1 mid).1 ∧ c.exceptionTable.toList = tableOf (M.2.2.2 mid) ∧ meth.locks = false ∧ l.stackTraces = false ∧ d + 12 ≤ R.frames ∧ 100 * d + 400 ≤ R.locals
theorem xL_lgs {sa : Nat → Nat} (vs : List Value) : (lg_sl (xL sa vs)).length = (lg_sl vs).length := by
  induction vs with
  | nil => rfl
  | cons v r ih =>
    show (lg_sl (xs sa v :: xL sa r)).length = _
    unfold lg_sl at ih ⊢
    rw [List.flatMap_cons, List.flatMap_cons, List.length_append, List.length_append, ih, xs_cat]
    congr 1
    by_cases hc : v.category = 2
    · rw [if_pos hc, if_pos hc]; rfl
    · rw [if_neg hc, if_neg hc]; rfl
theorem xV_args {sa : Nat → Nat} : ∀ (vs : List Value) (i : Nat), xV sa (lv_args i vs) = lv_args i (xL sa vs) := by
  intro vs
  induction vs with
  | nil => intro i; rfl
  | cons v r ih =>
    intro i
    show (i, xs sa v) :: xV sa (lv_args (if v.category = 2 then i + 2 else i + 1) r) = (i, xs sa v) :: lv_args (if (xs sa v).category = 2 then i + 2 else i + 1) (xL sa r)
    rw [ih, xs_cat]
/-- what a run that ends with 'o' and heap h2 says at its end -/
def xQc (s0 : State) (D : va_G) (cl : List vw_C) (xty : Nat → FieldType) (sa : Nat → Nat) (nr : Nat) (z : XO × XH) : Array Value → State → Outcome → State → Prop := fun _ st oc t =>
  (∃ v, z.1 = .inl v ∧ oc = .returned (v.map (xs sa)) ∧ xRep s0 D cl xty sa nr z.2 t.heap) ∧ st.heap.size ≤ t.heap.size
def xXC (s0 : State) (D : va_G) (cl : List vw_C) (xty : Nat → FieldType) (sa : Nat → Nat) (nr : Nat) (z : XO × XH) : String → State → State → Prop := fun E st t =>
  (∃ k, z.1 = .inr k ∧ E = xEn k ∧ k < 6 ∧ xRep s0 D cl xty sa nr z.2 t.heap) ∧ st.heap.size ≤ t.heap.size
def xPc (s0 : State) (D : va_G) (cl : List vw_C) (xty : Nat → FieldType) (sa : Nat → Nat) (nr : Nat) (as : List Value) (h : XH) : Array Value → State → Prop := va_Pc (xL sa as) (fun U => s0.WarmedH U.vm ∧ xRep s0 D cl xty sa nr h U.heap)
/-- a call's contract, read off its run -/
def xCon (s0 : State) (D : va_G) (cl : List vw_C) (xty : Nat → FieldType) (sa : Nat → Nat) (nr : Nat) (Gw : List Jvm.Cond) (T : XT) (M : XM) (l : Launch) (d i : Nat) (as : List Value) (h : XH) (z : XO × XH) : Prop :=
  vx_Met l (M.1 i) (xcode T M i :: Gw) ({ frames := d + 12, cells := z.2.2.2.1 - h.2.2.1, slots := z.2.2.2.2 - h.2.2.2, locals := 100 * d + 400 } : Room) (xPc s0 D cl xty sa nr as h) (xQc s0 D cl xty sa nr z) (xXC s0 D cl xty sa nr z) (z.2.2.2.1 - h.2.2.1) (z.2.2.2.2 - h.2.2.2) (fun q => s0.heap.size ≤ q)
theorem xPc_blind {s0 : State} {D : va_G} {cl : List vw_C} {xty : Nat → FieldType} {sa : Nat → Nat} {nr : Nat} {as : List Value} {h : XH} : FrameBlind (xPc s0 D cl xty sa nr as h) := fun a U g mk q => q
section XS5
variable {p : Program} {l : Launch} {e : Env} {R : Room} {s : State} {m : MethodId} {args : Array Value} {below : List Frame} {meth : Method} {c : Code} {H : Heap} {locs : List Loc} {cells slots : Nat} {Q : State → Prop} {cc : ByteArray} {pc : Nat} {ls : Array Slot}
variable {s0 : State} {D : va_G} {cl : List vw_C} {xty : Nat → FieldType} {sa : Nat → Nat} {nr : Nat} {ro : Nat → Option (Nat × vp_A)} {Gw Gn : List Jvm.Cond} {own mname : String} {c0 k0 : Nat} {h : XH} {T : XT} {M : XM}
/-- the end rows of a body, all in one -/
theorem xret_ok (hx : p.tables.exec = Jvm.exec) (hb : c.code = cc) {rt : Nat} {RT : Option FieldType} {i : Instr} {st : List Value} {v : Option Value} (he : xret rt i st = some v) (hd : decode cc pc = .ok (i, 1)) (hr : meth.sig.returnType = RT) (hrt : xrtok rt RT) (hlocks : meth.locks = false) {Qc : Array Value → State → Outcome → State → Prop} {free : Addr → Prop}
    (hq : ∀ t : State, t.heap = H → s.WarmedH t.vm → Qc args s (.returned (v.map (xs sa))) t) (hf : ∀ q ∈ locs, free q.base) : W p l e R s m args below meth c H locs cells slots (MQ below Qc args s cells slots free) (F0 m pc ls (xL sa st)) := by
  cases i
  case ireturn =>
    change xrI rt st = some v at he
    unfold xrI at he
    split at he
    · rename_i x
      split at he
      · cases he
        exact W.iret hx hb (hr.trans hrt) hq hf hd hlocks
      · split at he
        · rename_i hx0
          cases he
          subst hx0
          exact W.zret hx hb (hr.trans hrt) rfl hq hf hd hlocks
        · split at he
          · rename_i hx0
            cases he
            subst hx0
            exact W.zret hx hb (hr.trans hrt) rfl hq hf hd hlocks
          · cases he
      · split at he
        · rename_i hx0
          cases he
          refine W.zret (ty := .char) hx hb (hr.trans hrt) ?_ hq hf hd hlocks
          have e1 : narrow .char (.int x) = .int (vp_nar .char x) := rfl
          rw [e1, hx0]
        · cases he
      · split at he
        · rename_i hx0
          cases he
          refine W.zret (ty := .byte) hx hb (hr.trans hrt) ?_ hq hf hd hlocks
          have e1 : narrow .byte (.int x) = .int (vp_nar .byte x) := rfl
          rw [e1, hx0]
        · cases he
      · cases he
    · cases he
  case lreturn =>
    change xrL rt st = some v at he
    unfold xrL at he
    split at he
    · obtain ⟨b1, b2⟩ := xbif he
      have e1 := Nat.eq_of_beq_eq_true b1
      subst e1
      cases b2
      exact W.lret hx hb (hr.trans hrt) hq hf hd hlocks
    · cases he
  case freturn =>
    change xrF rt st = some v at he
    unfold xrF at he
    split at he
    · obtain ⟨b1, b2⟩ := xbif he
      have e1 := Nat.eq_of_beq_eq_true b1
      subst e1
      cases b2
      exact W.fret hx hb (hr.trans hrt) hq hf hd hlocks
    · cases he
  case dreturn =>
    change xrD rt st = some v at he
    unfold xrD at he
    split at he
    · obtain ⟨b1, b2⟩ := xbif he
      have e1 := Nat.eq_of_beq_eq_true b1
      subst e1
      cases b2
      exact W.dret hx hb (hr.trans hrt) hq hf hd hlocks
    · cases he
  case areturn =>
    change xrA rt st = some v at he
    unfold xrA at he
    split at he
    · rename_i x
      obtain ⟨b1, b2⟩ := xbif he
      have e1 := Nat.eq_of_beq_eq_true b1
      subst e1
      cases b2
      obtain ⟨t, h1, h2⟩ := hrt
      exact W.aret (v := .ref (sa x)) hx hb (hr.trans h1) h2 (Or.inr ⟨_, rfl⟩) hq hf hd hlocks
    · obtain ⟨b1, b2⟩ := xbif he
      have e1 := Nat.eq_of_beq_eq_true b1
      subst e1
      cases b2
      obtain ⟨t, h1, h2⟩ := hrt
      exact W.aret (v := .null) hx hb (hr.trans h1) h2 (Or.inl rfl) hq hf hd hlocks
    · cases he
  case return_ =>
    change xrV rt st = some v at he
    unfold xrV at he
    split at he
    · obtain ⟨b1, b2⟩ := xbif he
      have e1 := Nat.eq_of_beq_eq_true b1
      subst e1
      cases b2
      exact W.vret hx hb (hr.trans hrt) hq hf hd hlocks
    · cases he
  all_goals cases he
theorem xret_len {rt : Nat} {i : XI} {st : List Value} {v : Option Value} (he : xret rt i.1 st = some v) : xle i = 1 := by
  obtain ⟨i, k⟩ := i
  cases i <;> first | rfl | cases he
end XS5
