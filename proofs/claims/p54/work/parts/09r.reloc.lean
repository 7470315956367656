/-! a run of the deep machine at other addresses: references are related, all else is equal -/
def VR (r : Nat → Nat → Prop) (v w : Value) : Prop := match v with
  | .ref a => ∃ b, w = .ref b ∧ r a b
  | v => w = v
def LR (r : Nat → Nat → Prop) : List Value → List Value → Prop
  | [], [] => True
  | v :: s, w :: t => VR r v w ∧ LR r s t
  | _, _ => False
def VLR (r : Nat → Nat → Prop) : XLv → XLv → Prop
  | [], [] => True
  | v :: s, w :: t => w.1 = v.1 ∧ VR r v.2 w.2 ∧ VLR r s t
  | _, _ => False
def OVR (r : Nat → Nat → Prop) (v w : Option Value) : Prop := match v, w with
  | none, none => True
  | some v, some w => VR r v w
  | _, _ => False
def XOR (r : Nat → Nat → Prop) (x y : XO) : Prop := match x, y with
  | .inl v, .inl w => OVR r v w
  | .inr E, .inr F => F = E
  | _, _ => False
section REL
variable {r : Nat → Nat → Prop}
theorem VR.mono {r2 : Nat → Nat → Prop} (h : ∀ a b, r a b → r2 a b) {v w : Value} (k : VR r v w) : VR r2 v w := by
  cases v with
  | ref a => obtain ⟨b, e, q⟩ := k; exact ⟨b, e, h _ _ q⟩
  | _ => exact k
theorem LR.mono {r2 : Nat → Nat → Prop} (h : ∀ a b, r a b → r2 a b) : ∀ {s t : List Value}, LR r s t → LR r2 s t
  | [], [], _ => trivial
  | _ :: _, _ :: _, k => ⟨k.1.mono h, k.2.mono h⟩
  | [], _ :: _, k => k.elim
  | _ :: _, [], k => k.elim
theorem VLR.mono {r2 : Nat → Nat → Prop} (h : ∀ a b, r a b → r2 a b) : ∀ {s t : XLv}, VLR r s t → VLR r2 s t
  | [], [], _ => trivial
  | _ :: _, _ :: _, k => ⟨k.1, k.2.1.mono h, k.2.2.mono h⟩
  | [], _ :: _, k => k.elim
  | _ :: _, [], k => k.elim
theorem VR.cat {v w : Value} (k : VR r v w) : w.category = v.category := by
  cases v with
  | ref a => obtain ⟨b, rfl, q⟩ := k; rfl
  | _ => cases k; rfl
theorem LR_cons {v : Value} {s t : List Value} (k : LR r (v :: s) t) : ∃ w u, t = w :: u ∧ VR r v w ∧ LR r s u := by
  cases t with
  | nil => exact k.elim
  | cons w u => exact ⟨w, u, rfl, k.1, k.2⟩
theorem LR_nil {t : List Value} (k : LR r [] t) : t = [] := by
  cases t with
  | nil => rfl
  | cons w u => exact k.elim
theorem LR.len : ∀ {s t : List Value}, LR r s t → t.length = s.length
  | [], [], _ => rfl
  | _ :: _, _ :: _, k => congrArg (fun n => n + 1) k.2.len
  | [], _ :: _, k => k.elim
  | _ :: _, [], k => k.elim
theorem LR.app : ∀ {s t u w : List Value}, LR r s t → LR r u w → LR r (s ++ u) (t ++ w)
  | [], [], _, _, _, q => q
  | _ :: _, _ :: _, _, _, k, q => ⟨k.1, k.2.app q⟩
  | [], _ :: _, _, _, k, _ => k.elim
  | _ :: _, [], _, _, k, _ => k.elim
theorem LR.rev : ∀ {s t : List Value}, LR r s t → LR r s.reverse t.reverse
  | [], [], _ => trivial
  | v :: s, w :: t, k => by
    rw [List.reverse_cons, List.reverse_cons]
    exact k.2.rev.app ⟨k.1, trivial⟩
  | [], _ :: _, k => k.elim
  | _ :: _, [], k => k.elim
theorem LR.take : ∀ {s t : List Value} (n : Nat), LR r s t → LR r (s.take n) (t.take n)
  | _, _, 0, _ => by rw [List.take_zero, List.take_zero]; exact trivial
  | [], [], n + 1, _ => trivial
  | _ :: _, _ :: _, n + 1, k => ⟨k.1, k.2.take n⟩
  | [], _ :: _, _ + 1, k => k.elim
  | _ :: _, [], _ + 1, k => k.elim
theorem LR.drop : ∀ {s t : List Value} (n : Nat), LR r s t → LR r (s.drop n) (t.drop n)
  | _, _, 0, k => k
  | [], [], n + 1, _ => trivial
  | _ :: _, _ :: _, n + 1, k => k.2.drop n
  | [], _ :: _, _ + 1, k => k.elim
  | _ :: _, [], _ + 1, k => k.elim
theorem LR.cats : ∀ {s t : List Value}, LR r s t → (t.map fun v => v.category) = s.map fun v => v.category
  | [], [], _ => rfl
  | v :: s, w :: t, k => by
    rw [List.map_cons, List.map_cons, k.1.cat, k.2.cats]
  | [], _ :: _, k => k.elim
  | _ :: _, [], k => k.elim
theorem LR.get : ∀ {s t : List Value} {k : Nat} {v : Value}, LR r s t → s[k]? = some v → ∃ w, t[k]? = some w ∧ VR r v w
  | [], [], k, v, _, h => by cases h
  | x :: s, y :: t, 0, v, q, h => by
    have e : x = v := Option.some.inj h
    subst e
    exact ⟨y, rfl, q.1⟩
  | x :: s, y :: t, k + 1, v, q, h => LR.get (s := s) (t := t) (k := k) q.2 h
  | [], _ :: _, _, _, k, _ => k.elim
  | _ :: _, [], _, _, k, _ => k.elim
theorem LR.set : ∀ {s t : List Value} {v w : Value} (k : Nat), LR r s t → VR r v w → LR r (s.set k v) (t.set k w)
  | [], [], _, _, _, _, _ => trivial
  | _ :: _, _ :: _, _, _, 0, q, h => ⟨h, q.2⟩
  | _ :: _, _ :: _, _, _, k + 1, q, h => ⟨q.1, q.2.set k h⟩
  | [], _ :: _, _, _, _, k, _ => k.elim
  | _ :: _, [], _, _, _, k, _ => k.elim
/-- values that name no reference but those that stay -/
theorem LR.self : ∀ {s : List Value}, (∀ v ∈ s, ∀ a, v = .ref a → r a a) → LR r s s
  | [], _ => trivial
  | v :: s, h => ⟨by
      cases v with
      | ref a => exact ⟨a, rfl, h _ List.mem_cons_self a rfl⟩
      | _ => rfl, LR.self (fun w hw => h w (List.mem_cons_of_mem _ hw))⟩
theorem VLR.get : ∀ {s t : XLv} {i : Nat} {v : Value}, VLR r s t → xget s i = some v → ∃ w, xget t i = some w ∧ VR r v w
  | [], [], _, _, _, h => by cases h
  | x :: s, y :: t, i, v, q, h => by
    unfold xget at h ⊢
    rw [q.1]
    cases hj : Nat.beq x.1 i with
    | true =>
      rw [hj] at h
      have e : x.2 = v := Option.some.inj h
      subst e
      exact ⟨y.2, rfl, q.2.1⟩
    | false =>
      rw [hj] at h
      exact VLR.get (s := s) (t := t) q.2.2 h
  | [], _ :: _, _, _, k, _ => k.elim
  | _ :: _, [], _, _, k, _ => k.elim
theorem VLR.filter {p : Nat × Value → Bool} (hp : ∀ i v w, VR r v w → p (i, w) = p (i, v)) : ∀ {s t : XLv}, VLR r s t → VLR r (s.filter p) (t.filter p)
  | [], [], _ => trivial
  | (i, v) :: s, (j, w) :: t, q => by
    have e : j = i := q.1
    subst e
    have h := hp j v w q.2.1
    cases hq : p (j, v) with
    | true =>
      rw [List.filter_cons_of_pos hq, List.filter_cons_of_pos (h.trans hq)]
      exact ⟨rfl, q.2.1, q.2.2.filter hp⟩
    | false =>
      rw [List.filter_cons_of_neg (by rw [hq]; exact Bool.false_ne_true), List.filter_cons_of_neg (by rw [h, hq]; exact Bool.false_ne_true)]
      exact q.2.2.filter hp
  | [], _ :: _, k => k.elim
  | _ :: _, [], k => k.elim
theorem VLR.cl1 {s t : XLv} (i : Nat) (k : VLR r s t) : VLR r (xcl1 i s) (xcl1 i t) := k.filter (fun j v w q => by (try dsimp only); rw [q.cat])
theorem VLR.cl2 {s t : XLv} (i : Nat) (k : VLR r s t) : VLR r (xcl2 i s) (xcl2 i t) := k.filter (fun j v w q => by (try dsimp only); rw [q.cat])
theorem LR.args : ∀ {s t : List Value} (i : Nat), LR r s t → VLR r (lv_args i s) (lv_args i t)
  | [], [], _, _ => trivial
  | v :: s, w :: t, i, k => by
    refine ⟨rfl, k.1, ?_⟩
    show VLR r (lv_args (if v.category = 2 then i + 2 else i + 1) s) (lv_args (if w.category = 2 then i + 2 else i + 1) t)
    rw [k.1.cat]
    exact k.2.args _
  | [], _ :: _, _, k => k.elim
  | _ :: _, [], _, k => k.elim
theorem LR.slots : ∀ {s t : List Value}, LR r s t → (lg_sl t).length = (lg_sl s).length
  | [], [], _ => rfl
  | v :: s, w :: t, k => by
    have ih := k.2.slots
    unfold lg_sl at ih ⊢
    rw [List.flatMap_cons, List.flatMap_cons, List.length_append, List.length_append, ih, k.1.cat]
    congr 1
    by_cases hc : v.category = 2
    · rw [if_pos hc, if_pos hc]; rfl
    · rw [if_neg hc, if_neg hc]; rfl
  | [], _ :: _, k => k.elim
  | _ :: _, [], k => k.elim
theorem lrII {f : Int32 → Int32 → Int32} {st st' s2 : List Value} (h : xII f st = some s2) (k : LR r st st') : ∃ t2, xII f st' = some t2 ∧ LR r s2 t2 := by
  obtain ⟨x, y, u, rfl, rfl⟩ := xII_of h
  obtain ⟨w, u2, rfl, e, kz⟩ := LR_cons k
  clear k
  have k := kz
  clear kz
  obtain ⟨w2, u3, rfl, e2, kz⟩ := LR_cons k
  clear k
  have k := kz
  clear kz
  cases e; cases e2
  exact ⟨_, rfl, rfl, k⟩
theorem lrIIz {f : Int32 → Int32 → Int32} {st st' s2 : List Value} (h : xIIz f st = some s2) (k : LR r st st') : ∃ t2, xIIz f st' = some t2 ∧ LR r s2 t2 := by
  obtain ⟨x, y, u, rfl, rfl, hn⟩ := xIIz_of h
  obtain ⟨w, u2, rfl, e, kz⟩ := LR_cons k
  clear k
  have k := kz
  clear kz
  obtain ⟨w2, u3, rfl, e2, kz⟩ := LR_cons k
  clear k
  have k := kz
  clear kz
  cases e; cases e2
  exact ⟨_, if_neg hn, rfl, k⟩
theorem lrLL {f : Int64 → Int64 → Int64} {st st' s2 : List Value} (h : xLL f st = some s2) (k : LR r st st') : ∃ t2, xLL f st' = some t2 ∧ LR r s2 t2 := by
  obtain ⟨x, y, u, rfl, rfl⟩ := xLL_of h
  obtain ⟨w, u2, rfl, e, kz⟩ := LR_cons k
  clear k
  have k := kz
  clear kz
  obtain ⟨w2, u3, rfl, e2, kz⟩ := LR_cons k
  clear k
  have k := kz
  clear kz
  cases e; cases e2
  exact ⟨_, rfl, rfl, k⟩
theorem lrLI {f : Int64 → Int32 → Int64} {st st' s2 : List Value} (h : xLI f st = some s2) (k : LR r st st') : ∃ t2, xLI f st' = some t2 ∧ LR r s2 t2 := by
  obtain ⟨x, y, u, rfl, rfl⟩ := xLI_of h
  obtain ⟨w, u2, rfl, e, kz⟩ := LR_cons k
  clear k
  have k := kz
  clear kz
  obtain ⟨w2, u3, rfl, e2, kz⟩ := LR_cons k
  clear k
  have k := kz
  clear kz
  cases e; cases e2
  exact ⟨_, rfl, rfl, k⟩
theorem lrLC {st st' s2 : List Value} (h : xLC st = some s2) (k : LR r st st') : ∃ t2, xLC st' = some t2 ∧ LR r s2 t2 := by
  obtain ⟨x, y, u, rfl, rfl⟩ := xLC_of h
  obtain ⟨w, u2, rfl, e, kz⟩ := LR_cons k
  clear k
  have k := kz
  clear kz
  obtain ⟨w2, u3, rfl, e2, kz⟩ := LR_cons k
  clear k
  have k := kz
  clear kz
  cases e; cases e2
  exact ⟨_, rfl, rfl, k⟩
theorem lrFC {f : UInt32 → UInt32 → Int32} {st st' s2 : List Value} (h : xFC f st = some s2) (k : LR r st st') : ∃ t2, xFC f st' = some t2 ∧ LR r s2 t2 := by
  obtain ⟨x, y, u, rfl, rfl⟩ := xFC_of h
  obtain ⟨w, u2, rfl, e, kz⟩ := LR_cons k
  clear k
  have k := kz
  clear kz
  obtain ⟨w2, u3, rfl, e2, kz⟩ := LR_cons k
  clear k
  have k := kz
  clear kz
  cases e; cases e2
  exact ⟨_, rfl, rfl, k⟩
theorem lrDC {f : UInt64 → UInt64 → Int32} {st st' s2 : List Value} (h : xDC f st = some s2) (k : LR r st st') : ∃ t2, xDC f st' = some t2 ∧ LR r s2 t2 := by
  obtain ⟨x, y, u, rfl, rfl⟩ := xDC_of h
  obtain ⟨w, u2, rfl, e, kz⟩ := LR_cons k
  clear k
  have k := kz
  clear kz
  obtain ⟨w2, u3, rfl, e2, kz⟩ := LR_cons k
  clear k
  have k := kz
  clear kz
  cases e; cases e2
  exact ⟨_, rfl, rfl, k⟩
theorem lrI1 {f : Int32 → Value} (hf : ∀ x a, f x ≠ .ref a) {st st' s2 : List Value} (h : xI1 f st = some s2) (k : LR r st st') : ∃ t2, xI1 f st' = some t2 ∧ LR r s2 t2 := by
  obtain ⟨x, u, rfl, rfl⟩ := xI1_of h
  obtain ⟨w, u2, rfl, e, kz⟩ := LR_cons k
  clear k
  have k := kz
  clear kz
  cases e
  refine ⟨_, rfl, ?_, k⟩
  cases hx : f x with
  | ref a => exact absurd hx (hf x a)
  | _ => rfl
theorem lrL1 {f : Int64 → Value} (hf : ∀ x a, f x ≠ .ref a) {st st' s2 : List Value} (h : xL1 f st = some s2) (k : LR r st st') : ∃ t2, xL1 f st' = some t2 ∧ LR r s2 t2 := by
  obtain ⟨x, u, rfl, rfl⟩ := xL1_of h
  obtain ⟨w, u2, rfl, e, kz⟩ := LR_cons k
  clear k
  have k := kz
  clear kz
  cases e
  refine ⟨_, rfl, ?_, k⟩
  cases hx : f x with
  | ref a => exact absurd hx (hf x a)
  | _ => rfl
theorem lrFD {st st' s2 : List Value} (h : xFD st = some s2) (k : LR r st st') : ∃ t2, xFD st' = some t2 ∧ LR r s2 t2 := by
  obtain ⟨x, y, u, rfl, rfl, hn⟩ := xFD_of h
  obtain ⟨w, u2, rfl, e, kz⟩ := LR_cons k
  clear k
  have k := kz
  clear kz
  obtain ⟨w2, u3, rfl, e2, kz⟩ := LR_cons k
  clear k
  have k := kz
  clear kz
  cases e; cases e2
  exact ⟨_, if_pos hn, rfl, k⟩
theorem lrDD {st st' s2 : List Value} (h : xDD st = some s2) (k : LR r st st') : ∃ t2, xDD st' = some t2 ∧ LR r s2 t2 := by
  obtain ⟨x, y, u, rfl, rfl, hn⟩ := xDD_of h
  obtain ⟨w, u2, rfl, e, kz⟩ := LR_cons k
  clear k
  have k := kz
  clear kz
  obtain ⟨w2, u3, rfl, e2, kz⟩ := LR_cons k
  clear k
  have k := kz
  clear kz
  cases e; cases e2
  exact ⟨_, if_pos hn, rfl, k⟩
theorem lrF2 {st st' s2 : List Value} (h : xF2D st = some s2) (k : LR r st st') : ∃ t2, xF2D st' = some t2 ∧ LR r s2 t2 := by
  obtain ⟨x, u, rfl, rfl, hn⟩ := xF2D_of h
  obtain ⟨w, u2, rfl, e, kz⟩ := LR_cons k
  clear k
  have k := kz
  clear kz
  cases e
  exact ⟨_, if_pos hn, rfl, k⟩
theorem lrDup {st st' s2 : List Value} (h : xDup st = some s2) (k : LR r st st') : ∃ t2, xDup st' = some t2 ∧ LR r s2 t2 := by
  obtain ⟨v, u, rfl, rfl, h1⟩ := xDup_of h
  obtain ⟨w, u2, rfl, e, kz⟩ := LR_cons k
  clear k
  have k := kz
  clear kz
  exact ⟨_, if_pos (e.cat.trans h1), e, e, k⟩
theorem lrPop {st st' s2 : List Value} (h : xPop st = some s2) (k : LR r st st') : ∃ t2, xPop st' = some t2 ∧ LR r s2 t2 := by
  obtain ⟨v, rfl, h1⟩ := xPop_of h
  obtain ⟨w, u2, rfl, e, kz⟩ := LR_cons k
  clear k
  have k := kz
  clear kz
  exact ⟨_, if_pos (e.cat.trans h1), k⟩
theorem lrDup2 {st st' s2 : List Value} (h : xDup2 st = some s2) (k : LR r st st') : ∃ t2, xDup2 st' = some t2 ∧ LR r s2 t2 := by
  obtain ⟨v, v2, u, rfl, rfl, h1, h2⟩ := xDup2_of h
  obtain ⟨w, u2, rfl, e, kz⟩ := LR_cons k
  clear k
  have k := kz
  clear kz
  obtain ⟨w2, u3, rfl, e2, kz⟩ := LR_cons k
  clear k
  have k := kz
  clear kz
  exact ⟨_, if_pos ⟨e.cat.trans h1, e2.cat.trans h2⟩, e, e2, e, e2, k⟩
theorem lrDupX1 {st st' s2 : List Value} (h : xDupX1 st = some s2) (k : LR r st st') : ∃ t2, xDupX1 st' = some t2 ∧ LR r s2 t2 := by
  obtain ⟨v, v2, u, rfl, rfl, h1, h2⟩ := xDupX1_of h
  obtain ⟨w, u2, rfl, e, kz⟩ := LR_cons k
  clear k
  have k := kz
  clear kz
  obtain ⟨w2, u3, rfl, e2, kz⟩ := LR_cons k
  clear k
  have k := kz
  clear kz
  exact ⟨_, if_pos ⟨e.cat.trans h1, e2.cat.trans h2⟩, e, e2, e, k⟩
theorem lrDupX2 {st st' s2 : List Value} (h : xDupX2 st = some s2) (k : LR r st st') : ∃ t2, xDupX2 st' = some t2 ∧ LR r s2 t2 := by
  obtain ⟨v, v2, v3, u, rfl, rfl, h1, h2, h3⟩ := xDupX2_of h
  obtain ⟨w, u2, rfl, e, kz⟩ := LR_cons k
  clear k
  have k := kz
  clear kz
  obtain ⟨w2, u3, rfl, e2, kz⟩ := LR_cons k
  clear k
  have k := kz
  clear kz
  obtain ⟨w3, u4, rfl, e3, kz⟩ := LR_cons k
  clear k
  have k := kz
  clear kz
  exact ⟨_, if_pos ⟨e.cat.trans h1, e2.cat.trans h2, e3.cat.trans h3⟩, e, e2, e3, e, k⟩
theorem xst_r {i : Instr} {st st' s2 : List Value} (h : xst i st = some s2) (k : LR r st st') : ∃ t2, xst i st' = some t2 ∧ LR r s2 t2 := by
  cases i
  case iadd => exact lrII h k
  case isub => exact lrII h k
  case imul => exact lrII h k
  case iand => exact lrII h k
  case ior => exact lrII h k
  case ixor => exact lrII h k
  case ishl => exact lrII h k
  case ishr => exact lrII h k
  case iushr => exact lrII h k
  case idiv => exact lrIIz h k
  case irem => exact lrIIz h k
  case ladd => exact lrLL h k
  case lsub => exact lrLL h k
  case lmul => exact lrLL h k
  case land => exact lrLL h k
  case lor => exact lrLL h k
  case lxor => exact lrLL h k
  case lushr => exact lrLI h k
  case lshl => exact lrLI h k
  case lshr => exact lrLI h k
  case lcmp => exact lrLC h k
  case ineg => exact lrI1 (fun x a q => by cases q) h k
  case i2l => exact lrI1 (fun x a q => by cases q) h k
  case i2c => exact lrI1 (fun x a q => by cases q) h k
  case i2b => exact lrI1 (fun x a q => by cases q) h k
  case i2f => exact lrI1 (fun x a q => by cases q) h k
  case i2d => exact lrI1 (fun x a q => by cases q) h k
  case l2i => exact lrL1 (fun x a q => by cases q) h k
  case lneg => exact lrL1 (fun x a q => by cases q) h k
  case fdiv => exact lrFD h k
  case ddiv => exact lrDD h k
  case f2d => exact lrF2 h k
  case dup => exact lrDup h k
  case pop => exact lrPop h k
  case dup2 => exact lrDup2 h k
  case dup_x1 => exact lrDupX1 h k
  case dup_x2 => exact lrDupX2 h k
  case aconst_null => cases h; exact ⟨_, rfl, rfl, k⟩
  case fcmp q => exact lrFC h k
  case dcmp q => exact lrDC h k
  case fconst q =>
    have h : (if q = 0 then some (Value.float FP.fconst0 :: st) else if q = 1 then some (Value.float FP.fconst1 :: st) else none) = some s2 := h
    by_cases hq : q = 0
    · rw [if_pos hq] at h
      cases h
      exact ⟨_, if_pos hq, rfl, k⟩
    · rw [if_neg hq] at h
      by_cases hq1 : q = 1
      · rw [if_pos hq1] at h
        cases h
        exact ⟨_, (if_neg hq).trans (if_pos hq1), rfl, k⟩
      · rw [if_neg hq1] at h
        cases h
  case dconst q =>
    have h : (if q = 0 then some (Value.double FP.dconst0 :: st) else none) = some s2 := h
    by_cases hq : q = 0
    · rw [if_pos hq] at h
      cases h
      exact ⟨_, if_pos hq, rfl, k⟩
    · rw [if_neg hq] at h
      cases h
  all_goals cases h
theorem bifT {α : Type} {b : Bool} {x : Option α} (h : b = true) : (bif b then x else none) = x := by rw [h]; rfl
theorem xld_r {lv lv' : XLv} {i t : Nat} {st st' s2 : List Value} (h : xld lv i t st = some s2) (hl : VLR r lv lv') (k : LR r st st') : ∃ t2, xld lv' i t st' = some t2 ∧ LR r s2 t2 := by
  unfold xld at h ⊢
  cases hv : xget lv i with
  | none => rw [hv] at h; simp at h
  | some v =>
    rw [hv] at h
    obtain ⟨w, hw, e⟩ := hl.get hv
    rw [hw]
    split at h
    all_goals first
      | (rename_i hq; cases hq; cases h; cases e; exact ⟨_, rfl, rfl, k⟩)
      | (rename_i hq; cases hq; cases h; obtain ⟨b, rfl, q⟩ := e; exact ⟨_, rfl, ⟨b, rfl, q⟩, k⟩)
      | cases h
theorem xsto_r {nL : Nat} {lv lv' : XLv} {i t : Nat} {st st' : List Value} {q : XLv × List Value} (h : xsto nL lv i t st = some q) (hl : VLR r lv lv') (k : LR r st st') : ∃ l2 t2, xsto nL lv' i t st' = some (l2, t2) ∧ VLR r q.1 l2 ∧ LR r q.2 t2 := by
  unfold xsto at h
  split at h
  · obtain ⟨h1, h2⟩ := xbif h
    cases h2
    obtain ⟨w, u2, rfl, e, k1⟩ := LR_cons k
    cases e
    exact ⟨_, u2, bifT h1, ⟨rfl, rfl, hl.cl1 _⟩, k1⟩
  · obtain ⟨h1, h2⟩ := xbif h
    cases h2
    obtain ⟨w, u2, rfl, e, k1⟩ := LR_cons k
    cases e
    exact ⟨_, u2, bifT h1, ⟨rfl, rfl, hl.cl2 _⟩, k1⟩
  · obtain ⟨h1, h2⟩ := xbif h
    cases h2
    obtain ⟨w, u2, rfl, e, k1⟩ := LR_cons k
    cases e
    exact ⟨_, u2, bifT h1, ⟨rfl, rfl, hl.cl1 _⟩, k1⟩
  · obtain ⟨h1, h2⟩ := xbif h
    cases h2
    obtain ⟨w, u2, rfl, e, k1⟩ := LR_cons k
    cases e
    exact ⟨_, u2, bifT h1, ⟨rfl, rfl, hl.cl2 _⟩, k1⟩
  · obtain ⟨h1, h2⟩ := xbif h
    cases h2
    obtain ⟨w, u2, rfl, e, k1⟩ := LR_cons k
    obtain ⟨b, rfl, q⟩ := e
    exact ⟨(i, .ref b) :: xcl1 i lv', u2, bifT h1, ⟨rfl, ⟨b, rfl, q⟩, hl.cl1 _⟩, k1⟩
  · obtain ⟨h1, h2⟩ := xbif h
    cases h2
    obtain ⟨w, u2, rfl, e, k1⟩ := LR_cons k
    cases e
    exact ⟨_, u2, bifT h1, ⟨rfl, rfl, hl.cl1 _⟩, k1⟩
  · cases h
theorem xinc_r {nL : Nat} {lv lv' : XLv} {i : Nat} {vs : List Value} {q : XLv} (h : xinc nL lv i vs = some q) (hl : VLR r lv lv') : ∃ l2, xinc nL lv' i vs = some l2 ∧ VLR r q l2 := by
  unfold xinc at h ⊢
  split at h
  · rename_i x y hx
    obtain ⟨w, hw, e⟩ := hl.get hx
    cases e
    rw [hw]
    obtain ⟨h1, h2⟩ := xbif h
    cases h2
    exact ⟨(i, .int (x + y)) :: xcl1 i lv', bifT h1, rfl, rfl, hl.cl1 _⟩
  · cases h
theorem xcst_r {vs st st' s2 : List Value} (h : xcst vs st = some s2) (k : LR r st st') : ∃ t2, xcst vs st' = some t2 ∧ LR r s2 t2 := by
  unfold xcst at h ⊢
  split at h
  · cases h; exact ⟨_, rfl, rfl, k⟩
  · cases h; exact ⟨_, rfl, rfl, k⟩
  · cases h; exact ⟨_, rfl, rfl, k⟩
  · cases h
theorem xcm1_r {q : ClassFile.Cond} {a b : Nat} {st st' : List Value} {z : Nat × List Value} (h : xcm1 q a b st = some z) (k : LR r st st') : ∃ t2, xcm1 q a b st' = some (z.1, t2) ∧ LR r z.2 t2 := by
  unfold xcm1 at h
  split at h
  · cases h
    obtain ⟨w, u2, rfl, e, kz⟩ := LR_cons k
    clear k
    have k := kz
    clear kz
    cases e
    exact ⟨_, rfl, k⟩
  · cases h
theorem xcm2_r {q : ClassFile.Cond} {a b : Nat} {st st' : List Value} {z : Nat × List Value} (h : xcm2 q a b st = some z) (k : LR r st st') : ∃ t2, xcm2 q a b st' = some (z.1, t2) ∧ LR r z.2 t2 := by
  unfold xcm2 at h
  split at h
  · cases h
    obtain ⟨w, u2, rfl, e, kz⟩ := LR_cons k
    clear k
    have k := kz
    clear kz
    obtain ⟨w2, u3, rfl, e2, kz⟩ := LR_cons k
    clear k
    have k := kz
    clear kz
    cases e; cases e2
    exact ⟨_, rfl, k⟩
  · cases h
theorem xcma_r {nE : Nat} (hc : ∀ a b, r a b → a < nE → b = a) {q : ACond} {a b : Nat} {st st' : List Value} {z : Nat × List Value} (h : xcma nE q a b st = some z) (k : LR r st st') : ∃ t2, xcma nE q a b st' = some (z.1, t2) ∧ LR r z.2 t2 := by
  unfold xcma at h
  split at h
  · rename_i y x u
    obtain ⟨w, u2, rfl, ⟨y2, rfl, e1⟩, kz⟩ := LR_cons k
    clear k
    have k := kz
    clear kz
    obtain ⟨w2, u3, rfl, ⟨x2, rfl, e2⟩, kz⟩ := LR_cons k
    clear k
    have k := kz
    clear kz
    obtain ⟨h1, h2⟩ := xbif h
    obtain ⟨g1, g2⟩ := Bool.and_eq_true_iff.mp h1
    have q1 := hc _ _ e1 (xlt g2)
    have q2 := hc _ _ e2 (xlt g1)
    subst q1; subst q2
    unfold xcma
    simp only [h1, cond_true]
    cases q <;> (cases h2; exact ⟨_, rfl, k⟩)
  · cases h
theorem xnul_r {a b : Nat} {st st' : List Value} {z : Nat × List Value} (h : xnul a b st = some z) (k : LR r st st') : ∃ t2, xnul a b st' = some (z.1, t2) ∧ LR r z.2 t2 := by
  unfold xnul at h
  split at h
  · cases h
    obtain ⟨w, u2, rfl, e, kz⟩ := LR_cons k
    clear k
    have k := kz
    clear kz
    cases e
    exact ⟨_, rfl, k⟩
  · cases h
    obtain ⟨w, u2, rfl, ⟨y2, rfl, e1⟩, kz⟩ := LR_cons k
    clear k
    have k := kz
    clear kz
    exact ⟨_, rfl, k⟩
  · cases h
theorem xswt_r {lo hi : Int} {a : Nat} {ts : List Nat} {st st' : List Value} {z : Nat × List Value} (h : xswt lo hi a ts st = some z) (k : LR r st st') : ∃ t2, xswt lo hi a ts st' = some (z.1, t2) ∧ LR r z.2 t2 := by
  unfold xswt at h
  split at h
  · rename_i x u
    obtain ⟨w, u2, rfl, e, kz⟩ := LR_cons k
    clear k
    have k := kz
    clear kz
    cases e
    cases hx : xtab lo hi a ts x.toInt with
    | none => rw [hx] at h; cases h
    | some t =>
      rw [hx] at h
      cases h
      exact ⟨u2, by unfold xswt; simp only [hx]; rfl, k⟩
  · cases h
theorem xswl_r {ps : List (Int × Int)} {a : Nat} {ts : List Nat} {st st' : List Value} {z : Nat × List Value} (h : xswl ps a ts st = some z) (k : LR r st st') : ∃ t2, xswl ps a ts st' = some (z.1, t2) ∧ LR r z.2 t2 := by
  unfold xswl at h
  split at h
  · obtain ⟨w, u2, rfl, e, kz⟩ := LR_cons k
    clear k
    have k := kz
    clear kz
    cases e
    cases h
    exact ⟨_, rfl, k⟩
  · cases h
theorem xflow_r {nE nL : Nat} {e : XI} {pc : Nat} (hc : ∀ a b, r a b → a < nE → b = a) {lv lv' : XLv} {st st' : List Value} {q : Nat × (XLv × List Value)} (h : xflow nE nL e pc lv st = some q) (hl : VLR r lv lv') (k : LR r st st') : ∃ l2 t2, xflow nE nL e pc lv' st' = some (q.1, (l2, t2)) ∧ VLR r q.2.1 l2 ∧ LR r q.2.2 t2 := by
  have gS : ∀ {n : Nat} {x y : Option (List Value)}, xgoS n lv x = some q → (∀ z, x = some z → ∃ t2, y = some t2 ∧ LR r z t2) → ∃ l2 t2, xgoS n lv' y = some (q.1, (l2, t2)) ∧ VLR r q.2.1 l2 ∧ LR r q.2.2 t2 := by
    intro n x y g hy
    cases x with
    | none => cases g
    | some z =>
      cases g
      obtain ⟨t2, e1, e2⟩ := hy z rfl
      exact ⟨lv', t2, by rw [e1]; rfl, hl, e2⟩
  have gV : ∀ {n i t : Nat}, xgoV n (xsto nL lv i t st) = some q → ∃ l2 t2, xgoV n (xsto nL lv' i t st') = some (q.1, (l2, t2)) ∧ VLR r q.2.1 l2 ∧ LR r q.2.2 t2 := by
    intro n i t g
    cases hx : xsto nL lv i t st with
    | none => rw [hx] at g; cases g
    | some z =>
      rw [hx] at g
      cases g
      obtain ⟨l2, t2, e1, e2, e3⟩ := xsto_r hx hl k
      exact ⟨l2, t2, by rw [e1]; rfl, e2, e3⟩
  have gB : ∀ {x y : Option (Nat × List Value)}, xgoB lv x = some q → (∀ z, x = some z → ∃ t2, y = some (z.1, t2) ∧ LR r z.2 t2) → ∃ l2 t2, xgoB lv' y = some (q.1, (l2, t2)) ∧ VLR r q.2.1 l2 ∧ LR r q.2.2 t2 := by
    intro x y g hy
    cases x with
    | none => cases g
    | some z =>
      cases g
      obtain ⟨t2, e1, e2⟩ := hy z rfl
      exact ⟨lv', t2, by rw [e1]; rfl, hl, e2⟩
  obtain ⟨i, kk⟩ := e
  cases i
  case iload j => exact gS h (fun z hz => xld_r hz hl k)
  case iload_n j => exact gS h (fun z hz => xld_r hz hl k)
  case lload j => exact gS h (fun z hz => xld_r hz hl k)
  case lload_n j => exact gS h (fun z hz => xld_r hz hl k)
  case fload j => exact gS h (fun z hz => xld_r hz hl k)
  case fload_n j => exact gS h (fun z hz => xld_r hz hl k)
  case dload j => exact gS h (fun z hz => xld_r hz hl k)
  case dload_n j => exact gS h (fun z hz => xld_r hz hl k)
  case aload j => exact gS h (fun z hz => xld_r hz hl k)
  case aload_n j => exact gS h (fun z hz => xld_r hz hl k)
  case istore j => exact gV h
  case istore_n j => exact gV h
  case lstore j => exact gV h
  case lstore_n j => exact gV h
  case fstore j => exact gV h
  case fstore_n j => exact gV h
  case dstore j => exact gV h
  case dstore_n j => exact gV h
  case astore j => exact gV h
  case astore_n j => exact gV h
  case iinc j n =>
    have h : xgoI (pc + 3) st (xinc nL lv j kk.2.1) = some q := h
    cases hx : xinc nL lv j kk.2.1 with
    | none => rw [hx] at h; cases h
    | some z =>
      rw [hx] at h
      cases h
      obtain ⟨l2, e1, e2⟩ := xinc_r hx hl
      exact ⟨l2, st', (show xgoI (pc + 3) st' (xinc nL lv' j kk.2.1) = _ by rw [e1]; rfl), e2, k⟩
  case iconst j => exact gS h (fun z hz => xcst_r hz k)
  case lconst j => exact gS h (fun z hz => xcst_r hz k)
  case bipush j => exact gS h (fun z hz => xcst_r hz k)
  case sipush j => exact gS h (fun z hz => xcst_r hz k)
  case ldc j => exact gS h (fun z hz => xcst_r hz k)
  case ldc_w j => exact gS h (fun z hz => xcst_r hz k)
  case ldc2_w j => exact gS h (fun z hz => xcst_r hz k)
  case goto j => cases h; exact ⟨lv', st', rfl, hl, k⟩
  case ifCond c j => exact gB h (fun z hz => xcm1_r hz k)
  case if_icmp c j => exact gB h (fun z hz => xcm2_r hz k)
  case if_acmp c j => exact gB h (fun z hz => xcma_r hc hz k)
  case ifnull j => exact gB h (fun z hz => xnul_r hz k)
  case ifnonnull j => exact gB h (fun z hz => xnul_r hz k)
  case tableswitch c lo hi j => exact gB h (fun z hz => xswt_r hz k)
  case lookupswitch c j => exact gB h (fun z hz => xswl_r hz k)
  all_goals first | (cases h; done) | exact gS h (fun z hz => xst_r hz k) | (unfold xflow at h ⊢; dsimp only at h ⊢; exact gS h (fun z hz => xst_r hz k)) | (unfold xflow at h ⊢; exact gS h (fun z hz => xst_r hz k))
theorem xret_r {rt : Nat} {i : Instr} {st st' : List Value} {v : Option Value} (h : xret rt i st = some v) (k : LR r st st') : ∃ w, xret rt i st' = some w ∧ OVR r v w := by
  have one : ∀ {x : Value}, (∀ a, x ≠ .ref a) → ∀ {t : List Value}, LR r [x] t → t = [x] := by
    intro x hx t q
    obtain ⟨w, u, rfl, e, q⟩ := LR_cons q
    rw [LR_nil q]
    cases x with
    | ref a => exact absurd rfl (hx a)
    | _ => cases e; rfl
  unfold xret at h
  split at h
  · have h := h
    unfold xrI at h
    split at h
    · rw [one (by intro a z; cases z) k]
      rename_i x
      refine ⟨v, h, ?_⟩
      split at h
      · cases h; rfl
      · split at h
        · cases h; rfl
        · split at h
          · cases h; rfl
          · cases h
      · split at h
        · cases h; rfl
        · cases h
      · split at h
        · cases h; rfl
        · cases h
      · cases h
    · cases h
  · have h := h
    unfold xrL at h
    split at h
    · obtain ⟨h1, h2⟩ := xbif h
      rw [one (by intro a z; cases z) k]
      cases h2
      exact ⟨_, h, rfl⟩
    · cases h
  · have h := h
    unfold xrF at h
    split at h
    · obtain ⟨h1, h2⟩ := xbif h
      rw [one (by intro a z; cases z) k]
      cases h2
      exact ⟨_, h, rfl⟩
    · cases h
  · have h := h
    unfold xrD at h
    split at h
    · obtain ⟨h1, h2⟩ := xbif h
      rw [one (by intro a z; cases z) k]
      cases h2
      exact ⟨_, h, rfl⟩
    · cases h
  · have h := h
    unfold xrA at h
    split at h
    · obtain ⟨h1, h2⟩ := xbif h
      obtain ⟨w, u, rfl, ⟨b, rfl, e⟩, q⟩ := LR_cons k
      rw [LR_nil q]
      cases h2
      exact ⟨some (.ref b), by show xrA rt [.ref b] = _; unfold xrA; (try dsimp only); rw [h1]; rfl, b, rfl, e⟩
    · obtain ⟨h1, h2⟩ := xbif h
      rw [one (by intro a z; cases z) k]
      cases h2
      exact ⟨_, h, rfl⟩
    · cases h
  · have h := h
    unfold xrV at h
    split at h
    · obtain ⟨h1, h2⟩ := xbif h
      rw [LR_nil k]
      cases h2
      exact ⟨_, h, trivial⟩
    · cases h
  · cases h
theorem xcut_r {e : XI} {st st' : List Value} {q : List Value × List Value} (h : xcut e st = some q) (k : LR r st st') : ∃ q2, xcut e st' = some q2 ∧ LR r q.1 q2.1 ∧ LR r q.2 q2.2 := by
  unfold xcut at h ⊢
  split at h
  · rename_i hc
    cases h
    refine ⟨_, if_pos ⟨by rw [k.len]; exact hc.1, by rw [(k.drop _).cats]; exact hc.2⟩, (k.take _).rev, k.drop _⟩
  · cases h
theorem xcall_r {e : XI} {st st' : List Value} {q : Nat × (List Value × List Value)} (h : xcall e st = some q) (k : LR r st st') : ∃ q2, xcall e st' = some (q.1, q2) ∧ LR r q.2.1 q2.1 ∧ LR r q.2.2 q2.2 := by
  have go : ∀ {n : Nat}, (xcut e st).map (fun q => (n, q)) = some q → ∃ q2, (xcut e st').map (fun q => (n, q)) = some (q.1, q2) ∧ LR r q.2.1 q2.1 ∧ LR r q.2.2 q2.2 := by
    intro n g
    cases hx : xcut e st with
    | none => rw [hx] at g; cases g
    | some z =>
      rw [hx] at g
      cases g
      obtain ⟨q2, e1, e2, e3⟩ := xcut_r hx k
      exact ⟨q2, by rw [e1]; rfl, e2, e3⟩
  unfold xcall at h ⊢
  split at h
  · exact go h
  · exact go h
  · exact go h
  · obtain ⟨h1, h2⟩ := xbif h
    obtain ⟨q2, e1, e2⟩ := go h2
    exact ⟨q2, by rw [h1]; exact e1, e2⟩
  · cases h
end REL
