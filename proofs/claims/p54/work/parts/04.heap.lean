/-! the deep machine's heap -/
def xup (f : Nat → Option XE) (a : Nat) (x : XE) : Nat → Option XE := fun b => bif Nat.beq b a then some x else f b
theorem xup_s {f : Nat → Option XE} {a : Nat} {x : XE} : xup f a x a = some x := by
  unfold xup
  rw [Nat.beq_refl]
  rfl
theorem xup_n {f : Nat → Option XE} {a b : Nat} {x : XE} (h : b ≠ a) : xup f a x b = f b := by
  unfold xup
  cases hb : Nat.beq b a with
  | false => rfl
  | true => exact absurd (Nat.eq_of_beq_eq_true hb) h
def xc (sa : Nat → Nat) (x : vp_A) : vp_A := match x with
  | (n, .inr (.inr (.inr (.inr f)))) => (n, .inr (.inr (.inr (.inr (fun j => (f j).map sa)))))
  | (n, .inl f) => (n, .inl f)
  | (n, .inr (.inl f)) => (n, .inr (.inl f))
  | (n, .inr (.inr (.inl f))) => (n, .inr (.inr (.inl f)))
  | (n, .inr (.inr (.inr (.inl f)))) => (n, .inr (.inr (.inr (.inl f))))
/-- the value at a place of an array -/
def xsl (x : vp_A) (j : Nat) : Value := match x.2 with
  | .inl f => .int (f j)
  | .inr (.inl f) => .long (f j)
  | .inr (.inr (.inl f)) => .float (f j)
  | .inr (.inr (.inr (.inl f))) => .double (f j)
  | .inr (.inr (.inr (.inr f))) => va_rf (f j)
theorem xs_rf (sa : Nat → Nat) (r : Option Nat) : xs sa (va_rf r) = va_rf (r.map sa) := by cases r <;> rfl
theorem xc_size (sa : Nat → Nat) (cA : ClassId) (x : vp_A) : (vp_cell cA (xc sa x)).slots.size = x.1 := by
  obtain ⟨n, f | f | f | f | f⟩ := x <;> exact arrV_size _ _ _
theorem xc_read (sa : Nat → Nat) (cA : ClassId) (x : vp_A) {j : Nat} (hj : j < x.1) : (vp_cell cA (xc sa x)).slots[j]? = some (xs sa (xsl x j)) := by
  obtain ⟨n, f | f | f | f | f⟩ := x
  · exact arrV_read _ _ hj
  · exact arrV_read _ _ hj
  · exact arrV_read _ _ hj
  · exact arrV_read _ _ hj
  · rw [show xs sa (xsl (n, .inr (.inr (.inr (.inr f)))) j) = va_rf ((f j).map sa) from xs_rf sa (f j)]
    exact arrV_read _ (fun j => va_rf ((f j).map sa)) hj
theorem xc_vm (sa : Nat → Nat) (cA : ClassId) (x : vp_A) : (vp_cell cA (xc sa x)).vm = .none := by
  obtain ⟨n, f | f | f | f | f⟩ := x <;> rfl
theorem xc_arr (sa : Nat → Nat) (cA : ClassId) (x : vp_A) : ∃ z, vp_cell cA (xc sa x) = arrV cA x.1 z := by
  obtain ⟨n, f | f | f | f | f⟩ := x
  · exact ⟨fun j => .int (f j), rfl⟩
  · exact ⟨fun j => .long (f j), rfl⟩
  · exact ⟨fun j => .float (f j), rfl⟩
  · exact ⟨fun j => .double (f j), rfl⟩
  · exact ⟨fun j => va_rf ((f j).map sa), rfl⟩
/-- what a cell of the deep machine says of the heap -/
def xat (s0 : State) (D : va_G) (cl : List vw_C) (xty : Nat → FieldType) (sa : Nat → Nat) (a : Nat) (x : XE) (H : Heap) : Prop := match x with
  | .inl q => ∃ cA, H[sa a]? = some (vp_cell cA (xc sa q.2)) ∧ ArrOfT s0 cA (xty q.1) ∧ va_RA s0 cA (xty q.1)
  | .inr q => ∃ r : vw_C, cl[q.1]? = some r ∧ t_OB (sa a) (D.1 q.1) r.2.2 (D.2 q.1) H (vp_V (xL sa q.2)) ∧ q.2.length = r.2.2
def xRep (s0 : State) (D : va_G) (cl : List vw_C) (xty : Nat → FieldType) (sa : Nat → Nat) (nr : Nat) (h : XH) (H : Heap) : Prop :=
  (∀ a x, h.1 a = some x → nr ≤ a ∧ xat s0 D cl xty sa a x H) ∧ (∀ n, h.2.1 = some n → H.size = s0.heap.size + n) ∧ (∀ q : Nat, q < s0.heap.size → H[q]? = s0.heap[q]?) ∧ s0.heap.size ≤ H.size
/-- where the deep machine's cells lie -/
def xSA (s0 : State) (sa : Nat → Nat) (nr : Nat) : Prop := ∀ a, nr ≤ a → sa a = s0.heap.size + (a - nr)
theorem xSA.inj {s0 : State} {sa : Nat → Nat} {nr : Nat} (h : xSA s0 sa nr) {a b : Nat} (ha : nr ≤ a) (hb : nr ≤ b) (e : sa a = sa b) : a = b := by
  rw [h a ha, h b hb] at e
  omega
theorem xSA.le {s0 : State} {sa : Nat → Nat} {nr : Nat} (h : xSA s0 sa nr) {a : Nat} (ha : nr ≤ a) : s0.heap.size ≤ sa a := by
  rw [h a ha]
  omega
theorem xat.kept {s0 : State} {D : va_G} {cl : List vw_C} {xty : Nat → FieldType} {sa : Nat → Nat} {a : Nat} {x : XE} {H H1 : Heap} (h : xat s0 D cl xty sa a x H) (hq : H1[sa a]? = H[sa a]?) : xat s0 D cl xty sa a x H1 := by
  cases x with
  | inl q =>
    obtain ⟨cA, h1, h2⟩ := h
    exact ⟨cA, by rw [hq]; exact h1, h2⟩
  | inr q =>
    obtain ⟨r, h1, h2, h3⟩ := h
    exact ⟨r, h1, h2.kept hq, h3⟩
theorem xat.lt {s0 : State} {D : va_G} {cl : List vw_C} {xty : Nat → FieldType} {sa : Nat → Nat} {a : Nat} {x : XE} {H : Heap} (h : xat s0 D cl xty sa a x H) : sa a < H.size := by
  cases x with
  | inl q =>
    obtain ⟨cA, h1, h2⟩ := h
    exact (Array.getElem?_eq_some_iff.mp h1).1
  | inr q =>
    obtain ⟨r, h1, ⟨cell, h2, -⟩, h3⟩ := h
    exact (Array.getElem?_eq_some_iff.mp h2).1
/-- one cell is written -/
theorem xRep.put {s0 : State} {D : va_G} {cl : List vw_C} {xty : Nat → FieldType} {sa : Nat → Nat} {nr : Nat} {h : XH} {H H1 : Heap} (hR : xRep s0 D cl xty sa nr h H) (hs : xSA s0 sa nr) {a : Nat} {x : XE} (ha : nr ≤ a) (hx : xat s0 D cl xty sa a x H1) (hz : H1.size = H.size) (ho : ∀ q, q ≠ sa a → H1[q]? = H[q]?) : xRep s0 D cl xty sa nr (xup h.1 a x, h.2) H1 := by
  refine ⟨fun b y hb => ?_, fun n hn => by rw [hz]; exact hR.2.1 n hn, fun q hq => ?_, by rw [hz]; exact hR.2.2.2⟩
  · by_cases hba : b = a
    · subst hba
      have hb : xup h.1 b x b = some y := hb
      rw [xup_s] at hb
      cases hb
      exact ⟨ha, hx⟩
    · have hb : xup h.1 a x b = some y := hb
      rw [xup_n hba] at hb
      obtain ⟨h1, h2⟩ := hR.1 b y hb
      exact ⟨h1, h2.kept (ho _ (fun z => hba (hs.inj h1 ha z)))⟩
  · have := hs.le ha
    rw [ho q (by omega)]
    exact hR.2.2.1 q hq
/-- one cell is made -/
theorem xRep.push {s0 : State} {D : va_G} {cl : List vw_C} {xty : Nat → FieldType} {sa : Nat → Nat} {nr : Nat} {h : XH} {H H1 : Heap} (hR : xRep s0 D cl xty sa nr h H) {n : Nat} (hn : h.2.1 = some n) {x : XE} {q : Nat × Nat} (hx : xat s0 D cl xty sa (nr + n) x H1) (hz : H1.size = H.size + 1) (ho : ∀ q, q < H.size → H1[q]? = H[q]?) : xRep s0 D cl xty sa nr (xup h.1 (nr + n) x, (some (n + 1), q)) H1 := by
  have hs := hR.2.1 n hn
  have hle := hR.2.2.2
  refine ⟨fun b y hb => ?_, fun k hk => ?_, fun q hq => ?_, by rw [hz]; omega⟩
  · have hb : xup h.1 (nr + n) x b = some y := hb
    by_cases hba : b = nr + n
    · subst hba
      rw [xup_s] at hb
      cases hb
      exact ⟨by omega, hx⟩
    · rw [xup_n hba] at hb
      obtain ⟨h1, h2⟩ := hR.1 b y hb
      exact ⟨h1, h2.kept (ho _ h2.lt)⟩
  · have hk : some (n + 1) = some k := hk
    cases hk
    omega
  · rw [ho q (by omega)]
    exact hR.2.2.1 q hq
/-- an array that is only read, there from the start -/
def xRO (s0 : State) (xty : Nat → FieldType) (sa : Nat → Nat) (nr : Nat) (ro : Nat → Option (Nat × vp_A)) : Prop := ∀ a t x, ro a = some (t, x) → a < nr ∧ sa a < s0.heap.size ∧ ∃ cell : Cell, s0.heap[sa a]? = some cell ∧ s0.isArrayOf cell (xty t) ∧ cell.vm ≠ .unknown ∧ x.1 ≤ cell.slots.size ∧ cell.slots.size.toInt32 = Int32.ofNat x.1 ∧ ∀ j, j < x.1 → cell.slots[j]? = some (xs sa (xsl x j))
def xarr (ro : Nat → Option (Nat × vp_A)) (nr : Nat) (h : XH) (a : Nat) : Option (Nat × vp_A) := bif Nat.blt a nr then ro a else (match h.1 a with
  | some (.inl q) => some q
  | _ => none)
theorem xarr_ok {s0 : State} {D : va_G} {cl : List vw_C} {xty : Nat → FieldType} {sa : Nat → Nat} {nr : Nat} {ro : Nat → Option (Nat × vp_A)} {h : XH} {H : Heap} (hR : xRep s0 D cl xty sa nr h H) (hO : xRO s0 xty sa nr ro) {a t : Nat} {x : vp_A} (ha : xarr ro nr h a = some (t, x)) :
    ∃ cell : Cell, H[sa a]? = some cell ∧ s0.isArrayOf cell (xty t) ∧ cell.vm ≠ .unknown ∧ x.1 ≤ cell.slots.size ∧ cell.slots.size.toInt32 = Int32.ofNat x.1 ∧ ∀ j, j < x.1 → cell.slots[j]? = some (xs sa (xsl x j)) := by
  unfold xarr at ha
  cases hb : Nat.blt a nr with
  | true =>
    rw [hb] at ha
    obtain ⟨-, h2, cell, h3, h4⟩ := hO a t x ha
    exact ⟨cell, by rw [hR.2.2.1 _ h2]; exact h3, h4⟩
  | false =>
    rw [hb] at ha
    have ha : (match h.1 a with | some (.inl q) => some q | _ => none) = some (t, x) := ha
    split at ha
    · rename_i q hq
      cases ha
      obtain ⟨-, cA, g1, g2, g3⟩ := hR.1 a _ hq
      obtain ⟨z, hz⟩ := xc_arr sa cA x
      refine ⟨_, g1, by rw [hz]; exact g2 x.1 z, by rw [xc_vm]; exact fun q => (by cases q), by rw [xc_size]; exact Nat.le_refl _, by rw [xc_size] <;> rfl, fun j hj => xc_read sa cA x hj⟩
    · cases ha
def xtk (k t : Nat) : Bool := match k with
  | 0 => Nat.beq t 0
  | 1 => Nat.beq t 1
  | 2 => Nat.beq t 2
  | 3 => Nat.beq t 3
  | 5 => Nat.beq t 4
  | 6 => Nat.beq t 8
  | _ => Nat.ble 8 t
/-- the kinds of arrays -/
def xTY (cl : List vw_C) (xty : Nat → FieldType) : Prop := xty 0 = .int ∧ xty 1 = .long ∧ xty 2 = .double ∧ xty 3 = .char ∧ xty 4 = .byte ∧ xty 9 = .array .long ∧ (∀ t, 8 ≤ t → (xty t).isReference = true) ∧ (∀ c r, cl[c]? = some r → xty (10 + c) = .object r.1) ∧ xty 8 = .array .int
def xin (i : Int32) (n : Nat) : Bool := if i < 0 then false else Nat.blt i.toNatClampNeg n
theorem xin_ok {i : Int32} {n : Nat} (h : xin i n = true) : ¬ i < 0 ∧ i.toNatClampNeg < n := by
  unfold xin at h
  split at h
  · cases h
  · exact ⟨by assumption, xlt h⟩
def xald (ro : Nat → Option (Nat × vp_A)) (nr : Nat) (h : XH) (k : Nat) (st : List Value) : Option (List Value) := match st with
  | .int i :: .ref a :: r => match xarr ro nr h a with
    | some q => bif xtk k q.1 && xin i q.2.1 then some (xsl q.2 i.toNatClampNeg :: r) else none
    | none => none
  | _ => none
def xln (ro : Nat → Option (Nat × vp_A)) (nr : Nat) (h : XH) (st : List Value) : Option (List Value) := match st with
  | .ref a :: r => match xarr ro nr h a with
    | some q => some (.int (Int32.ofNat q.2.1) :: r)
    | none => none
  | _ => none
def xset (h : XH) (k t : Nat) (x : vp_A) (j : Nat) (v : Value) : Option vp_A := match k, x.2, v with
  | 0, .inl f, .int y => some (x.1, .inl (upd f j y))
  | 3, .inl f, .int y => some (x.1, .inl (upd f j (vp_nar .char y)))
  | 5, .inl f, .int y => some (x.1, .inl (upd f j (vp_nar .byte y)))
  | 1, .inr (.inl f), .long y => some (x.1, .inr (.inl (vp_updL f j y)))
  | 2, .inr (.inr (.inr (.inl f))), .double y => some (x.1, .inr (.inr (.inr (.inl (vf_upd f j y)))))
  | 4, .inr (.inr (.inr (.inr f))), .ref b => match h.1 b with
    | some (.inr q) => bif Nat.beq t (10 + q.1) then some (x.1, .inr (.inr (.inr (.inr (va_up f j (some b)))))) else none
    | _ => none
  | 6, .inr (.inr (.inr (.inr f))), .ref b => match h.1 b with
    | some (.inl q) => bif Nat.beq q.1 0 then some (x.1, .inr (.inr (.inr (.inr (va_up f j (some b)))))) else none
    | _ => none
  | _, _, _ => none
def xast (h : XH) (k : Nat) (st : List Value) : Option (List Value × XH) := match st with
  | v :: .int i :: .ref a :: r => match h.1 a with
    | some (.inl q) => bif xtk k q.1 && xin i q.2.1 then (match xset h k q.1 q.2 i.toNatClampNeg v with
      | some y => some (r, (xup h.1 a (.inl (q.1, y)), h.2))
      | none => none) else none
    | _ => none
  | _ => none
def xget1 (ci k : Nat) (h : XH) (st : List Value) : Option (List Value) := match st with
  | .ref a :: r => match h.1 a with
    | some (.inr q) => bif Nat.beq q.1 ci then (match q.2[k]? with
      | some v => some (v :: r)
      | none => none) else none
    | _ => none
  | _ => none
/-- what a field of a kind holds: 0 int, 1 boolean, 2 a reference or null -/
def xfit (t : Nat) (v : Value) : Bool := match t, v with
  | 0, .int _ => true
  | 1, .int x => if x = 0 then true else if x = 1 then true else false
  | 3, .int x => if vp_nar .byte x = x then fits .byte (.int x) else false
  | 2, .ref _ => true
  | 2, .null => true
  | _, _ => false
def xput1 (ci k t : Nat) (h : XH) (st : List Value) : Option (List Value × XH) := match st with
  | v :: .ref a :: r => match h.1 a with
    | some (.inr q) => bif Nat.beq q.1 ci && (xfit t v && Nat.blt k q.2.length) then some (r, (xup h.1 a (.inr (ci, q.2.set k v)), h.2)) else none
    | _ => none
  | _ => none
def xnew1 (nr ci n : Nat) (fs : List Value) (h : XH) (st : List Value) : Option (List Value × XH) := match h.2.1 with
  | some k => some (.ref (nr + k) :: st, (xup h.1 (nr + k) (.inr (ci, fs)), (some (k + 1), (h.2.2.1 + 1, h.2.2.2 + n))))
  | none => none
/-- the fresh array of a kind -/
def xzero (t N : Nat) : Option vp_A := match t with
  | 0 => some (N, .inl (fun _ => 0))
  | 3 => some (N, .inl (fun _ => 0))
  | 4 => some (N, .inl (fun _ => 0))
  | 1 => some (N, .inr (.inl (fun _ => 0)))
  | 2 => some (N, .inr (.inr (.inr (.inl (fun _ => 0)))))
  | _ => none
def xtA (ty : ArrayType) : Nat := match ty with
  | .int => 0
  | .long => 1
  | .double => 2
  | .char => 3
  | .byte => 4
  | _ => 8
def xnewa (nr : Nat) (ty : ArrayType) (h : XH) (st : List Value) : Option (List Value × XH) := match st, h.2.1 with
  | .int n :: r, some k => bif xin n 65536 then (match xzero (xtA ty) n.toNatClampNeg with
    | some z => some (.ref (nr + k) :: r, (xup h.1 (nr + k) (.inl (xtA ty, z)), (some (k + 1), (h.2.2.1 + 1, h.2.2.2 + n.toNatClampNeg))))
    | none => none) else none
  | _, _ => none
def xnewq (nr ci : Nat) (h : XH) (st : List Value) : Option (List Value × XH) := match st, h.2.1 with
  | .int n :: r, some k => bif xin n 65536 then some (.ref (nr + k) :: r, (xup h.1 (nr + k) (.inl (10 + ci, (n.toNatClampNeg, .inr (.inr (.inr (.inr (fun _ => none))))))), (some (k + 1), (h.2.2.1 + 1, h.2.2.2 + n.toNatClampNeg)))) else none
  | _, _ => none
def xnewqI (nr : Nat) (h : XH) (st : List Value) : Option (List Value × XH) := match st, h.2.1 with
  | .int n :: r, some k => bif xin n 65536 then some (.ref (nr + k) :: r, (xup h.1 (nr + k) (.inl (8, (n.toNatClampNeg, .inr (.inr (.inr (.inr (fun _ => none))))))), (some (k + 1), (h.2.2.1 + 1, h.2.2.2 + n.toNatClampNeg)))) else none
  | _, _ => none
def xnewm (nr : Nat) (h : XH) (st : List Value) : Option (List Value × XH) := match st, h.2.1 with
  | .int n2 :: .int n :: r, some k => bif xin n 65536 && xin n2 65536 then some (.ref (nr + k) :: r, ((fun b => if nr + k < b ∧ b ≤ nr + k + n.toNatClampNeg then some (.inl (1, (n2.toNatClampNeg, .inr (.inl (fun _ => 0))))) else if b = nr + k then some (.inl (9, (n.toNatClampNeg, .inr (.inr (.inr (.inr (fun i => if i < n.toNatClampNeg then some (nr + k + 1 + i) else none))))))) else h.1 b), (some (k + 1 + n.toNatClampNeg), (h.2.2.1 + (1 + n.toNatClampNeg), h.2.2.2 + (n.toNatClampNeg + n.toNatClampNeg * n2.toNatClampNeg))))) else none
  | _, _ => none
def xgh (h : XH) (r : Option (List Value)) : Option (List Value × XH) := match r with
  | some st => some (st, h)
  | none => none
def xgs (vs st : List Value) : Option (List Value) := match vs with
  | [v] => some (v :: st)
  | _ => none
def xgr (vs st : List Value) : Option (List Value) := match vs with
  | [.ref q] => some (.ref q :: st)
  | _ => none
theorem xgr_of {vs st r : List Value} (h : xgr vs st = some r) : ∃ q : Nat, vs = [.ref q] ∧ r = .ref q :: st := by
  unfold xgr at h
  split at h
  · cases h
    exact ⟨_, rfl, rfl⟩
  · cases h
theorem xgs_of {vs st r : List Value} (h : xgs vs st = some r) : ∃ v, vs = [v] ∧ r = v :: st := by
  unfold xgs at h
  split at h
  · cases h
    exact ⟨_, rfl, rfl⟩
  · cases h
def xheap (ro : Nat → Option (Nat × vp_A)) (nr : Nat) (e : XI) (st : List Value) (h : XH) : Option (List Value × XH) := match e.1 with
  | .getfield _ => bif Nat.beq (e.2.2.2.headD 9) 4 then none else xgh h (xget1 e.2.1.1 e.2.1.2 h st)
  | .putfield _ => xput1 e.2.1.1 e.2.1.2 (e.2.2.2.headD 9) h st
  | .getstatic _ => xgh h (xgs e.2.2.1 st)
  | .iaload => xgh h (xald ro nr h 0 st)
  | .laload => xgh h (xald ro nr h 1 st)
  | .daload => xgh h (xald ro nr h 2 st)
  | .caload => xgh h (xald ro nr h 3 st)
  | .baload => xgh h (xald ro nr h 5 st)
  | .aaload => xgh h (xald ro nr h 4 st)
  | .iastore => xast h 0 st
  | .lastore => xast h 1 st
  | .dastore => xast h 2 st
  | .castore => xast h 3 st
  | .bastore => xast h 5 st
  | .aastore => xast h (bif Nat.beq (e.2.2.2.headD 9) 6 then 6 else 4) st
  | .ldc _ => xgh h (xgr e.2.2.1 st)
  | .arraylength => xgh h (xln ro nr h st)
  | .new _ => xnew1 nr e.2.1.1 e.2.1.2 e.2.2.1 h st
  | .newarray t => xnewa nr t h st
  | .anewarray _ => bif Nat.beq (e.2.2.2.headD 9) 6 then xnewqI nr h st else xnewq nr e.2.1.1 h st
  | .multianewarray _ d => bif Nat.beq d 2 then xnewm nr h st else none
  | _ => none
/-- a field's row is right: found by its name in the table, linked from here -/
def xokG (cl : List vw_C) (Gw Gn : List Jvm.Cond) (own : String) (i ci k : Nat) : Prop := ∃ (C : String) (T : u_T) (N : Nat), cl[ci]? = some (C, T, N) ∧ k < N ∧ (∀ w ∈ u_ws C T N, w ∈ Gw) ∧ (Cond.fieldLink own i (T k).1 (T k).2.1 (T k).2.2.1 ∈ Gw ∨ ∃ host, Cond.fieldLinkNest own i (T k).1 (T k).2.1 (T k).2.2.1 host ∈ Gn)
def xftp (t : Nat) (ty : FieldType) : Prop := (t = 0 ∧ ty = .int) ∨ (t = 1 ∧ ty = .boolean) ∨ (t = 3 ∧ ty = .byte) ∨ (t = 2 ∧ ty.isReference = true ∧ (∀ a, narrow ty (.ref a) = .ref a ∧ fits ty (.ref a) = true) ∧ narrow ty .null = .null ∧ fits ty .null = true)
def xokP (cl : List vw_C) (Gw Gn : List Jvm.Cond) (own mname : String) (i ci k t : Nat) : Prop := ∃ (C : String) (T : u_T) (N : Nat) (tys : Nat → FieldType), cl[ci]? = some (C, T, N) ∧ k < N ∧ (∀ w ∈ u_ws C T N, w ∈ Gw) ∧ (∀ j, j < N → parseFieldDescriptor (T j).2.2.1 = some (tys j)) ∧ (∀ a, a < N → ∀ b, b < N → a ≠ b → (T a).2.1 ≠ (T b).2.1) ∧ xftp t (tys k) ∧
  (((T k).2.2.2 = false ∧ (Cond.fieldLink own i (T k).1 (T k).2.1 (T k).2.2.1 ∈ Gw ∨ ∃ host, Cond.fieldLinkNest own i (T k).1 (T k).2.1 (T k).2.2.1 host ∈ Gn)) ∨ ((T k).2.2.2 = true ∧ mname = "<init>" ∧ (T k).1 = own ∧ Cond.fieldLink own i (T k).1 (T k).2.1 (T k).2.2.1 ∈ Gw))
def xokN (cl : List vw_C) (Gw : List Jvm.Cond) (own : String) (i ci n : Nat) (fs : List Value) : Prop := ∃ (C : String) (T : u_T) (tys : Nat → FieldType), cl[ci]? = some (C, T, n) ∧ (∀ w ∈ u_ws C T n, w ∈ Gw) ∧ (∀ j, j < n → parseFieldDescriptor (T j).2.2.1 = some (tys j)) ∧ Cond.classLink own i C ∈ Gw ∧ Cond.instantiable C n ∈ Gw ∧ Cond.initialized C ∈ Gw ∧ fs.length = n ∧ (∀ j, j < n → defaultValue (tys j) = vp_V fs j) ∧ ∀ v ∈ fs, ∀ a, v ≠ .ref a
def xokS (s0 : State) (Gw Gn : List Jvm.Cond) (sa : Nat → Nat) (own : String) (i : Nat) (v : Value) : Prop := ∃ C n d, va_Z C n d (xs sa v) (fun q => s0.heap.size ≤ q) s0 s0.heap ∧ (Cond.fieldLink own i C n d ∈ Gw ∨ ∃ host, Cond.fieldLinkNest own i C n d host ∈ Gn)
/-- a row of the table that speaks of the heap is right -/
def xokH (s0 : State) (cl : List vw_C) (Gw Gn : List Jvm.Cond) (sa : Nat → Nat) (own mname : String) (e : XI) : Prop := match e.1 with
  | .getfield i => e.2.2.2.headD 9 ≠ 4 → xokG cl Gw Gn own i e.2.1.1 e.2.1.2
  | .putfield i => xokP cl Gw Gn own mname i e.2.1.1 e.2.1.2 (e.2.2.2.headD 9)
  | .getstatic i => ∀ v, e.2.2.1 = [v] → xokS s0 Gw Gn sa own i v
  | .new i => xokN cl Gw own i e.2.1.1 e.2.1.2 e.2.2.1
  | .newarray t => Cond.arrayClass (newarray.typeOf t) ∈ Gw
  | .anewarray i => (Nat.beq (e.2.2.2.headD 9) 6 = true ∧ Cond.classLink own i (FieldType.array .int).toString ∈ Gw ∧ va_AOA .int s0) ∨ (Nat.beq (e.2.2.2.headD 9) 6 = false ∧ ∃ r : vw_C, cl[e.2.1.1]? = some r ∧ Cond.classLink own i r.1 ∈ Gw ∧ va_AO r.1 s0)
  | .aastore => Nat.beq (e.2.2.2.headD 9) 6 = true → va_AOA .int s0
  | .ldc i => ∀ q, e.2.2.1 = [.ref q] → ∃ tx, vk_R own i tx (sa q) s0
  | .multianewarray i _ => Cond.classLink own i ("[" ++ (FieldType.array .long).toString) ∈ Gw ∧ Cond.arrayClass .long ∈ Gw ∧ va_AOA .long s0 ∧ True
  | _ => True
