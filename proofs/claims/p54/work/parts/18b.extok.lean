/-! what is told apart, tied to the machine -/
section XS9
variable {p : Program} {l : Launch} {e : Env} {R : Room} {s : State} {m : MethodId} {args : Array Value} {below : List Frame} {meth : Method} {c : Code} {H : Heap} {locs : List Loc} {cells slots : Nat} {Q : State → Prop} {cc : ByteArray} {pc : Nat} {ls : Array Slot}
variable {s0 : State} {D : va_G} {xty : Nat → FieldType} {sa : Nat → Nat} {ro : Nat → Option (Nat × vp_A)} {own mname : String} {c0 k0 : Nat} {h : XH}
theorem xroom {rest : List Value} {st : List Value} (h : (rest.map fun v => v.category).sum ≤ 8) : 2 * (F0 m pc ls st).monitorRoom + ((xL sa rest).map fun v => v.category).sum ≤ 8 := by
  rw [xL_cats]
  show 2 * 0 + _ ≤ 8
  omega
theorem xOF_use {o n d : String} {v : Value} {t : Nat} (C0 : xCx s0 D xcl xty sa 72 ro Gw Gn p s m args meth c cc own mname) (hE : va_OF o n d v t (xFn s0.heap.size) s0 s0.heap) : va_OF o n d v t (fun q => s0.heap.size ≤ q) s s.heap := by
  obtain ⟨hx, hb, hown, hmn, hts, hn, hW0, hKc, hTY, hSA, hRO, hsz, hbel⟩ := C0
  exact va_OF.moved hW0.alike (va_OF.kept hE (fun q _ h2 => hbel q (Nat.not_le.mp h2)))
theorem xfld_ok (C0 : xCx s0 D xcl xty sa 72 ro Gw Gn p s m args meth c cc own mname) (Y : xDy s0 D xcl xty sa 72 s c0 k0 h H locs cells slots) {o n d : String} {v : Value} {a i : Nat} {rest : List Value} (hE : va_OF o n d (xs sa v) (sa a) (xFn s0.heap.size) s0 s0.heap) (hl : Cond.fieldLink own i o n d ∈ Gw ∨ ∃ host, Cond.fieldLinkNest own i o n d host ∈ Gn) (hd : decode cc pc = .ok (.getfield i, 3)) (k : W p l e R s m args below meth c H locs cells slots Q (F0 m (pc + 3) ls (xL sa (v :: rest)))) : W p l e R s m args below meth c H locs cells slots Q (F0 m pc ls (xL sa (.ref a :: rest))) := by
  have hE2 := xOF_use C0 hE
  obtain ⟨hx, hb, hown, hmn, hts, hn, hW0, hKc, hTY, hSA, hRO, hsz, hbel⟩ := C0
  rcases hl with hl | ⟨host, hl⟩
  · exact vk_getf hx hb hE2 (Y.S hbel) hown (hts _ hl) (fun x h => h) hd k
  · obtain ⟨cf, kf, fi, f, cell, h1, h2, h3, h4, h5, h6⟩ := hE2.kept (Y.S hbel).2.1
    exact va_Wgetf hx hb hown (va_Nw.use rfl (va_Nw.warmF hW0 (hn _ hl))) h1 h2 h3 h4 (v := xs sa v) h5 rfl rfl hd k
theorem xord_ok (C0 : xCx s0 D xcl xty sa 72 ro Gw Gn p s m args meth c cc "EstimateContest" mname) (Y : xDy s0 D xcl xty sa 72 s c0 k0 h H locs cells slots) (hls : ls.size = c.maxLocals) (hfr : 12 ≤ R.frames) (hlo : 400 ≤ R.locals) (hrc : h.2.2.1 ≤ c0 + R.cells) (hrs : h.2.2.2 ≤ k0 + R.slots) {E : String} {x : Int32} {a i : Nat} {rest : List Value} (hrest : (rest.map fun v => v.category).sum ≤ 8) (hO : va_O E (sa a) (xFn s0.heap.size) s0 s0.heap) (hE : va_OF "java/lang/Enum" "ordinal" "I" (.int x) (sa a) (xFn s0.heap.size) s0 s0.heap) (hG : GoodIn Gw (va_wsU "EstimateContest" i E "java/lang/Enum" ⟨E, "ordinal", "()I"⟩ yJx29ce0_ordinal_8abf5 wOrd)) (hd : decode cc pc = .ok (.invokevirtual i, 3))
    (k : ∀ (H1 : Heap) (locs1 : List Loc) (cells1 slots1 : Nat), xDy s0 D xcl xty sa 72 s c0 k0 h H1 locs1 cells1 slots1 → W p l e R s m args below meth c H1 locs1 cells1 slots1 Q (F0 m (pc + 3) ls (xL sa (.int x :: rest)))) : W p l e R s m args below meth c H locs cells slots Q (F0 m pc ls (xL sa (.ref a :: rest))) := by
  have hE2 := xOF_use C0 hE
  obtain ⟨hx, hb, hown, hmn, hts, hn, hW0, hKc, hTY, hSA, hRO, hsz, hbel⟩ := C0
  have hE3 : va_OF "java/lang/Enum" "ordinal" "I" (.int x) (sa a) xFs s H := (hE2.kept (Y.S hbel).2.1).narrow (fun _ h => h.elim)
  have hr1 := Y.2.2.2.1
  have hr2 := Y.2.2.2.2
  obtain ⟨cell, o1, o2, o3, o4⟩ := hO
  refine va_calli (va_runU (As := []) (rest := xL sa rest) (nL := c.maxLocals) ⟨hx, hb, rfl, hown, hts⟩ (cx_ord l (sa a) x H) (va_cwU (owner := "java/lang/Enum") (C := E) (x := ⟨E, "ordinal", "()I"⟩) 0 hts hG rfl rfl rfl rfl ⟨by decide +kernel, by decide +kernel, (by decide +kernel : (parseMethodDescriptor "()I").map (fun d => d.parameters.length) = some 0)⟩ ⟨by show 0 + 1 ≤ R.frames; omega, by show 8 + (1 + 11) + 0 ≤ R.locals; omega⟩) ⟨fun a U g mk q => ⟨q.1, q.2.1, va_OF.moved (u := U) (U := U.calling g mk a) (Vm.Alike.refl U.vm) q.2.2⟩, ⟨cell, by rw [Y.1.2.2.1 _ (Array.getElem?_eq_some_iff.mp o1).1]; exact o1, o2, by rw [hW0.alike.findClass]; exact o3⟩, fun U hU hW => ⟨rfl, hU, va_OF.moved hW.alike hE3⟩⟩ rfl rfl hls rfl (xroom hrest) hd ⟨by omega, by omega⟩) (Y.S hbel) (fun q _ h => h.elim) (fun q h => h.elim) (fun r u t H1 locs1 ht hvm hr hB hz hk hS1 => ?_)
  have eH : H1 = H := by rw [← ht]; exact hB
  subst eH
  have er : r = x := hr
  subst er
  exact k _ locs1 _ _ ⟨Y.1, Y.2.1, hS1.2.2, hr1, hr2⟩
theorem xcki_ok (C0 : xCx s0 D xcl xty sa 72 ro Gw Gn p s m args meth c cc own mname) (Y : xDy s0 D xcl xty sa 72 s c0 k0 h H locs cells slots) (hls : ls.size = c.maxLocals) (hfr : 12 ≤ R.frames) (hlo : 400 ≤ R.locals) (hrc : h.2.2.1 ≤ c0 + R.cells) (hrs : h.2.2.2 ≤ k0 + R.slots) {x n : Int32} {i : Nat} {rest : List Value} (hrest : (rest.map fun v => v.category).sum ≤ 8) (hx0 : ¬ x < 0) (hxn : x < n) (hZ : xzq s0.heap.size s0 s0.heap) (hG : GoodIn Gw ([Cond.methodLink own i yJ0_checkIndex_df160, .static yJ0_checkIndex_df160, .initialized yJ0_checkIndex_df160.cls] ++ wCki)) (hd : decode cc pc = .ok (.invokestatic i, 3))
    (k : ∀ (H1 : Heap) (locs1 : List Loc) (cells1 slots1 : Nat), xDy s0 D xcl xty sa 72 s c0 k0 h H1 locs1 cells1 slots1 → W p l e R s m args below meth c H1 locs1 cells1 slots1 Q (F0 m (pc + 3) ls (xL sa rest))) : W p l e R s m args below meth c H locs cells slots Q (F0 m pc ls (xL sa (.int n :: .int x :: rest))) := by
  obtain ⟨hx, hb, hown, hmn, hts, hn, hW0, hKc, hTY, hSA, hRO, hsz, hbel⟩ := C0
  have hr1 := Y.2.2.2.1
  have hr2 := Y.2.2.2.2
  have hZ3 : xzq s0.heap.size s H := va_Zq.moved hW0.alike (va_Zq.kept hZ (fun q _ h2 => Y.1.2.2.1 q (Nat.not_le.mp h2)))
  have ok : ∀ w ∈ ([Cond.methodLink own i yJ0_checkIndex_df160, .static yJ0_checkIndex_df160, .initialized yJ0_checkIndex_df160.cls] ++ wCki), w.before args s = true := fun w h => hts w (hG w h).1
  refine va_callv (va_runS (As := [.int x, .int n]) (rest := xL sa rest) (nL := c.maxLocals) ⟨hx, hb, rfl, hown, hts⟩ (cx_cki l x n hx0 hxn H s0.heap.size) ⟨callB_of (ws := wCki) 2 hts (fun w h => hG w (List.mem_append_right _ h)) rfl rfl rfl (ok _ (by simp)) (ok _ (by simp)) ⟨by decide +kernel, by decide +kernel, by decide +kernel⟩ ⟨by show 1 + 1 ≤ R.frames; omega, by show 8 + (2 + 11) + 40 ≤ R.locals; omega⟩, ok _ (by simp)⟩ ⟨fun a U g mk q => ⟨q.1, q.2.1, va_Zq.moved (u := U) (U := U.calling g mk a) (Vm.Alike.refl U.vm) q.2.2⟩, fun U hU hW => ⟨rfl, hU, va_Zq.moved hW.alike hZ3⟩⟩ rfl rfl hls rfl (xroom hrest) hd ⟨by omega, by omega⟩) (Y.S hbel) (fun q _ h => h.elim) (fun q h => h.elim) (fun u t H1 locs1 ht hvm hr hB hz hk hS1 => ?_)
  have eH : H1 = H := by rw [← ht]; exact hB
  subst eH
  exact k _ locs1 _ _ ⟨Y.1, Y.2.1, hS1.2.2, hr1, hr2⟩
theorem xcpy_ok (C0 : xCx s0 D xcl xty sa 72 ro Gw Gn p s m args meth c cc own mname) (Y : xDy s0 D xcl xty sa 72 s c0 k0 h H locs cells slots) (hls : ls.size = c.maxLocals) (hfr : 12 ≤ R.frames) (hlo : 400 ≤ R.locals) {a b t n0 n1 i : Nat} {sp dp n : Int32} {f g : Nat → Int32} {rest : List Value} (hrest : (rest.map fun v => v.category).sum ≤ 8) (ha : h.1 a = some (.inl (t, (n0, .inl f)))) (hb9 : h.1 b = some (.inl (t, (n1, .inl g)))) (ht : t = 0 ∨ t = 4) (h1 : ¬ sp < 0) (h2 : ¬ dp < 0) (h3 : ¬ n < 0) (h4 : sp.toNatClampNeg + n.toNatClampNeg ≤ n0) (h5 : dp.toNatClampNeg + n.toNatClampNeg ≤ n1) (hfit : t = 4 → ∀ i, i < n.toNatClampNeg → fits .byte (.int (f (sp.toNatClampNeg + i))) = true)
    (hG : GoodIn Gw [Cond.methodLink own i arraycopyName, .native arraycopyName, .static arraycopyName, .initialized "java/lang/System"]) (hd : decode cc pc = .ok (.invokestatic i, 3))
    (k : ∀ (H1 : Heap) (locs1 : List Loc) (cells1 slots1 : Nat), xDy s0 D xcl xty sa 72 s c0 k0 (xup h.1 b (.inl (t, (n1, .inl (va_cpy f g sp.toNatClampNeg dp.toNatClampNeg n.toNatClampNeg)))), h.2) H1 locs1 cells1 slots1 → W p l e R s m args below meth c H1 locs1 cells1 slots1 Q (F0 m (pc + 3) ls (xL sa rest))) : W p l e R s m args below meth c H locs cells slots Q (F0 m pc ls (xL sa (.int n :: .int dp :: .ref b :: .int sp :: .ref a :: rest))) := by
  obtain ⟨hx, hb, hown, hmn, hts, hn, hW0, hKc, hTY, hSA, hRO, hsz, hbel⟩ := C0
  have ok : ∀ w ∈ [Cond.methodLink own i arraycopyName, .native arraycopyName, .static arraycopyName, .initialized "java/lang/System"], w.before args s = true := fun w h => hts w (hG w h).1
  have nn : ∀ z : Int32, ¬ z < 0 → z.toInt = (z.toNatClampNeg : Int) := by
    intro z hz
    have hz0 : (0 : Int) ≤ z.toInt := by
      have := Int32.not_lt.mp hz
      simpa using Int32.le_iff_toInt_le.mp this
    show z.toInt = ((z.toInt.toNat : Nat) : Int)
    omega
  obtain ⟨ty, e1, e2, e3⟩ : ∃ ty : FieldType, xty t = ty ∧ refKind ty = false ∧ ∀ i, i < n.toNatClampNeg → fits ty (.int (f (sp.toNatClampNeg + i))) = true := by
    rcases ht with rfl | rfl
    · exact ⟨_, hTY.1, rfl, fun i hi => rfl⟩
    · exact ⟨_, hTY.2.2.2.2.1, rfl, hfit rfl⟩
  obtain ⟨hna, cA0, a1, a2, a3⟩ := Y.1.1 a _ ha
  obtain ⟨hnb, cA1, b1, b2, b3⟩ := Y.1.1 b _ hb9
  have a2' : ArrOfT s cA0 ty := arrOfT_moved hW0.alike (by rw [← e1]; exact a2)
  have b2' : ArrOfT s cA1 ty := arrOfT_moved hW0.alike (by rw [← e1]; exact b2)
  have hc0 : H[sa a]? = some (vp_cell cA0 (n0, .inl f)) := a1
  have hc1 : H[sa b]? = some (vp_cell cA1 (n1, .inl g)) := b1
  intro T hT X
  obtain ⟨-, q0, hk0, cm0, hkk0⟩ := a2' n0 (fun j => .int (f j))
  obtain ⟨-, q1, hk1, cm1, hkk1⟩ := b2' n1 (fun j => .int (g j))
  obtain ⟨vm', X', step⟩ := X.arraycopy hx hown (ok (.methodLink own i arraycopyName) (by simp)) (ok (.native arraycopyName) (by simp)) (ok (.static arraycopyName) (by simp)) (ok (.initialized "java/lang/System") (by simp)) (src := sa a) (dst := sa b) (cs := vp_cell cA0 (n0, .inl f)) (cd := vp_cell cA1 (n1, .inl g)) (srcPos := sp) (destPos := dp) (n := n) (by rw [hT]; exact hc0) (by rw [hT]; exact hc1)
    (fun _ h => by cases h) (fun _ h => by cases h) (fun h => by cases h) (fun h => by cases h) hk0 hk1 hkk0 hkk1 (by simp [e2]) h1 h2 h3
    (by rw [nn sp h1, nn n h3]; show ¬ _ > ((arrV cA0 n0 (fun j => .int (f j))).slots.size : Int); rw [arrV_size]; omega)
    (by rw [nn dp h2, nn n h3]; show ¬ _ > ((arrV cA1 n1 (fun j => .int (g j))).slots.size : Int); rw [arrV_size]; omega)
    (fun vm₁ _ i hi => by
      have e : (vp_cell cA0 (n0, .inl f)).slots.getD (sp.toNatClampNeg + i) .null = .int (f (sp.toNatClampNeg + i)) := by
        show (arrV cA0 n0 (fun j => .int (f j))).slots.getD _ _ = _
        rw [Array.getD_eq_getD_getElem?, arrV_read _ _ (by omega)]
        rfl
      refine ⟨?_, ?_⟩
      · rw [e]
        exact e3 i hi
      · rw [e]
        exact trivial)
    (g := F0 m pc ls (xL sa (.int n :: .int dp :: .ref b :: .int sp :: .ref a :: rest))) rfl hls (rest := xL sa rest) rfl (by rw [hb]; exact hd) (by omega) (by
      rw [xL_cats]
      show 2 * 0 + _ + (nativeFrameWords "java/lang/System" "arraycopy" 5 + 11) ≤ R.locals
      have : nativeFrameWords "java/lang/System" "arraycopy" 5 + 11 ≤ 100 := by decide +kernel
      omega)
  have e9 : copied (vp_cell cA0 (n0, .inl f)) (vp_cell cA1 (n1, .inl g)) sp dp n = vp_cell cA1 (n1, .inl (va_cpy f g sp.toNatClampNeg dp.toNatClampNeg n.toNatClampNeg)) := va_copied (fun z => .int z) cA0 cA1 f g h4
  rw [e9] at X' step
  have hl : sa b < H.size := (Array.getElem?_eq_some_iff.mp hc1).1
  have hheap : ((T.setVm vm').setCell (sa b) (vp_cell cA1 (n1, .inl (va_cpy f g sp.toNatClampNeg dp.toNatClampNeg n.toNatClampNeg)))).heap = H.setIfInBounds (sa b) (vp_cell cA1 (n1, .inl (va_cpy f g sp.toNatClampNeg dp.toNatClampNeg n.toNatClampNeg))) := by rw [← hT]; rfl
  have oq : ∀ q : Nat, q ≠ sa b → (H.setIfInBounds (sa b) (vp_cell cA1 (n1, .inl (va_cpy f g sp.toNatClampNeg dp.toNatClampNeg n.toNatClampNeg))))[q]? = H[q]? := fun q hq => by simp [Array.getElem?_setIfInBounds, Ne.symm hq]
  obtain ⟨t9, t1, t2⟩ := k _ _ cells slots ⟨Y.1.put hSA hnb ⟨cA1, (show (H.setIfInBounds (sa b) _)[sa b]? = some (vp_cell cA1 (xc sa (n1, .inl (va_cpy f g sp.toNatClampNeg dp.toNatClampNeg n.toNatClampNeg)))) by simp [Array.getElem?_setIfInBounds, hl]; rfl), b2, b3⟩ (by simp) oq, by simp; exact Y.2.1, fun z hz => by
      rcases List.mem_append.mp hz with h | h
      · exact Y.2.2.1 z h
      · obtain ⟨w, -, hw⟩ := List.mem_map.mp h
        rw [← hw]
        exact hSA.le hnb, Y.2.2.2⟩ _ hheap X'
  exact ⟨t9, step t9 t1, t2⟩
theorem va_copiedC (c1 : ClassId) {cs : Cell} {n1 sp dp n : Nat} (f g : Nat → Int32) (hs : ∀ i, i < n → cs.slots.getD (sp + i) .null = .int (f (sp + i))) :
    (arrV c1 n1 (fun j => .int (g j))).storeRun dp (cs.stretch sp n) = arrV c1 n1 (fun j => .int (va_cpy f g sp dp n j)) := by
  have e : cs.stretch sp n = (List.range n).map (fun i => Value.int (f (sp + i))) := by
    unfold Cell.stretch
    apply List.map_congr_left
    intro i hi
    exact hs i (List.mem_range.mp hi)
  rw [e, Cell.storeRun, va_pairs]
  congr 1
  funext k
  simp only [va_cpy, List.length_map, List.length_range, Nat.add_zero]
  by_cases h : dp ≤ k ∧ k < dp + n
  · rw [if_pos h, if_pos h, List.getD_eq_getElem?_getD, List.getElem?_map, List.getElem?_range (by omega)]
    rfl
  · rw [if_neg h, if_neg h]
theorem xcpc_ok (C0 : xCx s0 D xcl xty sa 72 ro Gw Gn p s m args meth c cc own mname) (Y : xDy s0 D xcl xty sa 72 s c0 k0 h H locs cells slots) (hls : ls.size = c.maxLocals) (hfr : 12 ≤ R.frames) (hlo : 400 ≤ R.locals) {a b n0 n1 i : Nat} {sp dp n : Int32} {f g : Nat → Int32} {rest : List Value} (hrest : (rest.map fun v => v.category).sum ≤ 8) (ha : va_T .byte (sa a) n0 (fun k => .int (f k)) (xFn s0.heap.size) s0 s0.heap) (hb9 : h.1 b = some (.inl (4, (n1, .inl g)))) (h1 : ¬ sp < 0) (h2 : ¬ dp < 0) (h3 : ¬ n < 0) (h4 : sp.toNatClampNeg + n.toNatClampNeg ≤ n0) (h5 : dp.toNatClampNeg + n.toNatClampNeg ≤ n1) (hfit : ∀ i, i < n.toNatClampNeg → fits .byte (.int (f (sp.toNatClampNeg + i))) = true)
    (hG : GoodIn Gw [Cond.methodLink own i arraycopyName, .native arraycopyName, .static arraycopyName, .initialized "java/lang/System"]) (hd : decode cc pc = .ok (.invokestatic i, 3))
    (k : ∀ (H1 : Heap) (locs1 : List Loc) (cells1 slots1 : Nat), xDy s0 D xcl xty sa 72 s c0 k0 (xup h.1 b (.inl (4, (n1, .inl (va_cpy f g sp.toNatClampNeg dp.toNatClampNeg n.toNatClampNeg)))), h.2) H1 locs1 cells1 slots1 → W p l e R s m args below meth c H1 locs1 cells1 slots1 Q (F0 m (pc + 3) ls (xL sa rest))) : W p l e R s m args below meth c H locs cells slots Q (F0 m pc ls (xL sa (.int n :: .int dp :: .ref b :: .int sp :: .ref a :: rest))) := by
  obtain ⟨hx, hb, hown, hmn, hts, hn, hW0, hKc, hTY, hSA, hRO, hsz, hbel⟩ := C0
  have ok : ∀ w ∈ [Cond.methodLink own i arraycopyName, .native arraycopyName, .static arraycopyName, .initialized "java/lang/System"], w.before args s = true := fun w h => hts w (hG w h).1
  have nn : ∀ z : Int32, ¬ z < 0 → z.toInt = (z.toNatClampNeg : Int) := by
    intro z hz
    have hz0 : (0 : Int) ≤ z.toInt := by
      have := Int32.not_lt.mp hz
      simpa using Int32.le_iff_toInt_le.mp this
    show z.toInt = ((z.toInt.toNat : Nat) : Int)
    omega
  obtain ⟨cs, a1, a2, a3, a4, a5, a6, a7⟩ := ha
  obtain ⟨hnb, cA1, b1, b2, b3⟩ := Y.1.1 b _ hb9
  have e4 : xty 4 = .byte := hTY.2.2.2.2.1
  have a2' : s.isArrayOf cs .byte := State.isArrayOf_alike hW0.alike a2
  have b2' : ArrOfT s cA1 .byte := arrOfT_moved hW0.alike (by rw [← e4]; exact b2)
  have hc0 : H[sa a]? = some cs := by rw [Y.1.2.2.1 _ (Array.getElem?_eq_some_iff.mp a1).1]; exact a1
  have hc1 : H[sa b]? = some (vp_cell cA1 (n1, .inl g)) := b1
  have hget : ∀ i, i < n.toNatClampNeg → cs.slots.getD (sp.toNatClampNeg + i) .null = .int (f (sp.toNatClampNeg + i)) := fun i hi => by
    rw [Array.getD_eq_getD_getElem?, a6 _ (by omega)]
    rfl
  intro T hT X
  obtain ⟨hst0, q0, hk0, cm0, hkk0⟩ := a2'
  obtain ⟨-, q1, hk1, cm1, hkk1⟩ := b2' n1 (fun j => .int (g j))
  obtain ⟨vm', X', step⟩ := X.arraycopy hx hown (ok (.methodLink own i arraycopyName) (by simp)) (ok (.native arraycopyName) (by simp)) (ok (.static arraycopyName) (by simp)) (ok (.initialized "java/lang/System") (by simp)) (src := sa a) (dst := sa b) (cs := cs) (cd := vp_cell cA1 (n1, .inl g)) (srcPos := sp) (destPos := dp) (n := n) (by rw [hT]; exact hc0) (by rw [hT]; exact hc1)
    hst0 (fun _ h => by cases h) a3 (fun h => by cases h) hk0 hk1 hkk0 hkk1 (by decide) h1 h2 h3
    (by rw [nn sp h1, nn n h3]; omega)
    (by rw [nn dp h2, nn n h3]; show ¬ _ > ((arrV cA1 n1 (fun j => .int (g j))).slots.size : Int); rw [arrV_size]; omega)
    (fun vm₁ _ i hi => by
      refine ⟨?_, ?_⟩
      · rw [hget i hi]
        exact hfit i hi
      · rw [hget i hi]
        exact trivial)
    (g := F0 m pc ls (xL sa (.int n :: .int dp :: .ref b :: .int sp :: .ref a :: rest))) rfl hls (rest := xL sa rest) rfl (by rw [hb]; exact hd) (by omega) (by
      rw [xL_cats]
      show 2 * 0 + _ + (nativeFrameWords "java/lang/System" "arraycopy" 5 + 11) ≤ R.locals
      have : nativeFrameWords "java/lang/System" "arraycopy" 5 + 11 ≤ 100 := by decide +kernel
      omega)
  have e9 : copied cs (vp_cell cA1 (n1, .inl g)) sp dp n = vp_cell cA1 (n1, .inl (va_cpy f g sp.toNatClampNeg dp.toNatClampNeg n.toNatClampNeg)) := va_copiedC cA1 f g hget
  rw [e9] at X' step
  have hl : sa b < H.size := (Array.getElem?_eq_some_iff.mp hc1).1
  have hheap : ((T.setVm vm').setCell (sa b) (vp_cell cA1 (n1, .inl (va_cpy f g sp.toNatClampNeg dp.toNatClampNeg n.toNatClampNeg)))).heap = H.setIfInBounds (sa b) (vp_cell cA1 (n1, .inl (va_cpy f g sp.toNatClampNeg dp.toNatClampNeg n.toNatClampNeg))) := by rw [← hT]; rfl
  have oq : ∀ q : Nat, q ≠ sa b → (H.setIfInBounds (sa b) (vp_cell cA1 (n1, .inl (va_cpy f g sp.toNatClampNeg dp.toNatClampNeg n.toNatClampNeg))))[q]? = H[q]? := fun q hq => by simp [Array.getElem?_setIfInBounds, Ne.symm hq]
  obtain ⟨t9, t1, t2⟩ := k _ _ cells slots ⟨Y.1.put hSA hnb ⟨cA1, (show (H.setIfInBounds (sa b) _)[sa b]? = some (vp_cell cA1 (xc sa (n1, .inl (va_cpy f g sp.toNatClampNeg dp.toNatClampNeg n.toNatClampNeg)))) by simp [Array.getElem?_setIfInBounds, hl]; rfl), b2, b3⟩ (by simp) oq, by simp; exact Y.2.1, fun z hz => by
      rcases List.mem_append.mp hz with h | h
      · exact Y.2.2.1 z h
      · obtain ⟨w, -, hw⟩ := List.mem_map.mp h
        rw [← hw]
        exact hSA.le hnb, Y.2.2.2⟩ _ hheap X'
  exact ⟨t9, step t9 t1, t2⟩
theorem xmmax_ok (C0 : xCx s0 D xcl xty sa 72 ro Gw Gn p s m args meth c cc own mname) (Y : xDy s0 D xcl xty sa 72 s c0 k0 h H locs cells slots) (hls : ls.size = c.maxLocals) (hfr : 12 ≤ R.frames) (hlo : 400 ≤ R.locals) (hrc : h.2.2.1 ≤ c0 + R.cells) (hrs : h.2.2.2 ≤ k0 + R.slots) {x y : Int32} {i : Nat} {rest : List Value} (hrest : (rest.map fun v => v.category).sum ≤ 8) (hG : GoodIn Gw [Cond.methodLink own i Lib.Math.max.name, .static Lib.Math.max.name, .initialized "java/lang/Math", .code Lib.Math.max.name Lib.Math.max.code 2 (some .int)]) (hd : decode cc pc = .ok (.invokestatic i, 3))
    (k : W p l e R s m args below meth c H locs cells slots Q (F0 m (pc + 3) ls (xL sa (.int (if x < y then y else x) :: rest)))) : W p l e R s m args below meth c H locs cells slots Q (F0 m pc ls (xL sa (.int y :: .int x :: rest))) := by
  obtain ⟨hx, hb, hown, hmn, hts, hn, hW0, hKc, hTY, hSA, hRO, hsz, hbel⟩ := C0
  have hr1 := Y.2.2.2.1
  have hr2 := Y.2.2.2.2
  have ok : ∀ w ∈ [Cond.methodLink own i Lib.Math.max.name, .static Lib.Math.max.name, .initialized "java/lang/Math", .code Lib.Math.max.name Lib.Math.max.code 2 (some .int)], w.before args s = true := fun w h => hts w (hG w h).1
  exact va_mmax hx hb hls.symm hown (ok (.methodLink own i Lib.Math.max.name) (by simp)) (ok (.static Lib.Math.max.name) (by simp)) (ok (.initialized "java/lang/Math") (by simp)) (ok (.code Lib.Math.max.name Lib.Math.max.code 2 (some .int)) (by simp)) (by omega) (by show ((xL sa rest).map fun v => v.category).sum + 13 ≤ R.locals; rw [xL_cats]; omega) (by omega) (by omega) hd k
theorem xmmin_ok (C0 : xCx s0 D xcl xty sa 72 ro Gw Gn p s m args meth c cc own mname) (Y : xDy s0 D xcl xty sa 72 s c0 k0 h H locs cells slots) (hls : ls.size = c.maxLocals) (hfr : 12 ≤ R.frames) (hlo : 400 ≤ R.locals) (hrc : h.2.2.1 ≤ c0 + R.cells) (hrs : h.2.2.2 ≤ k0 + R.slots) {x y : Int32} {i : Nat} {rest : List Value} (hrest : (rest.map fun v => v.category).sum ≤ 8) (hG : GoodIn Gw [Cond.methodLink own i Lib.Math.min.name, .static Lib.Math.min.name, .initialized "java/lang/Math", .code Lib.Math.min.name Lib.Math.min.code 2 (some .int)]) (hd : decode cc pc = .ok (.invokestatic i, 3))
    (k : W p l e R s m args below meth c H locs cells slots Q (F0 m (pc + 3) ls (xL sa (.int (if y < x then y else x) :: rest)))) : W p l e R s m args below meth c H locs cells slots Q (F0 m pc ls (xL sa (.int y :: .int x :: rest))) := by
  obtain ⟨hx, hb, hown, hmn, hts, hn, hW0, hKc, hTY, hSA, hRO, hsz, hbel⟩ := C0
  have hr1 := Y.2.2.2.1
  have hr2 := Y.2.2.2.2
  have ok : ∀ w ∈ [Cond.methodLink own i Lib.Math.min.name, .static Lib.Math.min.name, .initialized "java/lang/Math", .code Lib.Math.min.name Lib.Math.min.code 2 (some .int)], w.before args s = true := fun w h => hts w (hG w h).1
  exact va_mmin hx hb hls.symm hown (ok (.methodLink own i Lib.Math.min.name) (by simp)) (ok (.static Lib.Math.min.name) (by simp)) (ok (.initialized "java/lang/Math") (by simp)) (ok (.code Lib.Math.min.name Lib.Math.min.code 2 (some .int)) (by simp)) (by omega) (by show ((xL sa rest).map fun v => v.category).sum + 13 ≤ R.locals; rw [xL_cats]; omega) (by omega) (by omega) hd k
theorem xmabs_ok (C0 : xCx s0 D xcl xty sa 72 ro Gw Gn p s m args meth c cc own mname) (Y : xDy s0 D xcl xty sa 72 s c0 k0 h H locs cells slots) (hls : ls.size = c.maxLocals) (hfr : 12 ≤ R.frames) (hlo : 400 ≤ R.locals) (hrc : h.2.2.1 ≤ c0 + R.cells) (hrs : h.2.2.2 ≤ k0 + R.slots) {x : Int32} {i : Nat} {rest : List Value} (hrest : (rest.map fun v => v.category).sum ≤ 8) (hG : GoodIn Gw [Cond.methodLink own i Lib.Math.abs.name, .static Lib.Math.abs.name, .initialized "java/lang/Math", .code Lib.Math.abs.name Lib.Math.abs.code 1 (some .int)]) (hd : decode cc pc = .ok (.invokestatic i, 3))
    (k : W p l e R s m args below meth c H locs cells slots Q (F0 m (pc + 3) ls (xL sa (.int (if 0 ≤ x then x else 0 - x) :: rest)))) : W p l e R s m args below meth c H locs cells slots Q (F0 m pc ls (xL sa (.int x :: rest))) := by
  obtain ⟨hx, hb, hown, hmn, hts, hn, hW0, hKc, hTY, hSA, hRO, hsz, hbel⟩ := C0
  have hr1 := Y.2.2.2.1
  have hr2 := Y.2.2.2.2
  have ok : ∀ w ∈ [Cond.methodLink own i Lib.Math.abs.name, .static Lib.Math.abs.name, .initialized "java/lang/Math", .code Lib.Math.abs.name Lib.Math.abs.code 1 (some .int)], w.before args s = true := fun w h => hts w (hG w h).1
  exact va_mabs hx hb hls.symm hown (ok (.methodLink own i Lib.Math.abs.name) (by simp)) (ok (.static Lib.Math.abs.name) (by simp)) (ok (.initialized "java/lang/Math") (by simp)) (ok (.code Lib.Math.abs.name Lib.Math.abs.code 1 (some .int)) (by simp)) (by omega) (by show ((xL sa rest).map fun v => v.category).sum + 13 ≤ R.locals; rw [xL_cats]; omega) (by omega) (by omega) hd k
theorem xhf_ok (C0 : xCx s0 D xcl xty sa 72 ro Gw Gn p s m args meth c cc own mname) (Y : xDy s0 D xcl xty sa 72 s c0 k0 h H locs cells slots) {ci j i a : Nat} {fs : List Value} {v : Value} {rest : List Value} (ha : h.1 a = some (.inr (ci, fs))) (hv : fs[j]? = some v) (hok : xokG xcl Gw Gn own i ci j) (hd : decode cc pc = .ok (.getfield i, 3)) (k : W p l e R s m args below meth c H locs cells slots Q (F0 m (pc + 3) ls (xL sa (v :: rest)))) : W p l e R s m args below meth c H locs cells slots Q (F0 m pc ls (xL sa (.ref a :: rest))) := by
  refine xget_ok C0 Y (ci := ci) (j := j) (r := v :: rest) ?_ hok hd k
  unfold xget1
  simp only [ha, Nat.beq_refl, cond_true, hv]
theorem xsbl_ok (C0 : xCx s0 D xcl xty sa 72 ro Gw Gn p s m args meth c cc "java/lang/String" mname) (Y : xDy s0 D xcl xty sa 72 s c0 k0 h H locs cells slots) (hls : ls.size = c.maxLocals) (hfr : 12 ≤ R.frames) (hlo : 400 ≤ R.locals) (hrc : h.2.2.1 ≤ c0 + R.cells) (hrs : h.2.2.2 ≤ k0 + R.slots) {a i : Nat} {fs : List Value} {x : Int32} {rest : List Value} (hrest : (rest.map fun v => v.category).sum ≤ 8) (ha : h.1 a = some (.inr (10, fs))) (hv : fs[3]? = some (.int x)) (hl9 : ∀ w ∈ u_ws RJ4 TJ4 4, w ∈ Gw) (h09 : Cond.code yJ5_length_8abf5 cJ5_length_8abf5 1 (some .int) ∈ Gw) (hG : GoodIn Gw (va_wsO "java/lang/String" i "java/lang/StringBuilder" "java/lang/AbstractStringBuilder" yJ5_length_8abf5 yJ4_length_8abf5 wJ4l)) (hd : decode cc pc = .ok (.invokevirtual i, 3))
    (k : ∀ (H1 : Heap) (locs1 : List Loc) (cells1 slots1 : Nat), xDy s0 D xcl xty sa 72 s c0 k0 h H1 locs1 cells1 slots1 → W p l e R s m args below meth c H1 locs1 cells1 slots1 Q (F0 m (pc + 3) ls (xL sa (.int x :: rest)))) : W p l e R s m args below meth c H locs cells slots Q (F0 m pc ls (xL sa (.ref a :: rest))) := by
  obtain ⟨hx, hb, hown, hmn, hts, hn, hW0, hKc, hTY, hSA, hRO, hsz, hbel⟩ := C0
  have hr1 := Y.2.2.2.1
  have hr2 := Y.2.2.2.2
  obtain ⟨hna, r9, hcl9, hOB, hlen⟩ := Y.1.1 a _ ha
  have e9 : r9 = (RJ4, TJ4, 4) := Option.some.inj (hcl9.symm.trans rfl)
  subst e9
  obtain ⟨hS9, hfc, kC, hkC, hkind⟩ := u_Kn_moved hW0.alike (hKc 10 (RJ4, TJ4, 4) rfl)
  obtain ⟨cell, o1, o2, o3, o4⟩ := hOB
  obtain ⟨cf, kf, fi, f, hi, hsl⟩ := hS9 3 (by decide)
  have hE : va_OF "java/lang/AbstractStringBuilder" "count" "I" (.int x) (sa a) xFs s H := ⟨cf, kf, fi, f, cell, hi, (u_facts hfc hkC (u_lays hts hl9 (by decide : 3 < 4)) hi).1, o1, (by rw [o3]; exact fun z => (by cases z)), (by rw [hsl, o4 3 (by decide), xV_get hv]; rfl), fun z => z⟩
  have hCA : ClassAt s "java/lang/StringBuilder" (D.1 10) := ⟨hfc, kC, hkC, hkind⟩
  refine va_calli (va_runU (As := []) (rest := xL sa rest) (nL := c.maxLocals) ⟨hx, hb, rfl, hown, hts⟩ (cx_j4l l (sa a) x H (D.1 10)) (va_cwO (owner := "java/lang/AbstractStringBuilder") (C := "java/lang/StringBuilder") (x := yJ5_length_8abf5) 0 hts hG rfl rfl rfl h09 ⟨by decide +kernel, by decide +kernel, (by decide +kernel : (parseMethodDescriptor "()I").map (fun d => d.parameters.length) = some 0)⟩ ⟨by show 1 + 1 ≤ R.frames; omega, by show 8 + (1 + 11) + 40 ≤ R.locals; omega⟩) ⟨fun a U g mk q => ⟨q.1, q.2.1, classAt_moved (Vm.Alike.refl U.vm) q.2.2.1, q.2.2.2.1, va_OF.moved (u := U) (U := U.calling g mk a) (Vm.Alike.refl U.vm) q.2.2.2.2⟩, ⟨cell, o1, by rw [o3]; rfl, by rw [o2]; exact hfc⟩, fun U hU hW => ⟨rfl, hU, classAt_moved hW.alike hCA, ⟨cell, o1, by rw [o3]; rfl, o2⟩, va_OF.moved hW.alike hE⟩⟩ rfl rfl hls rfl (xroom hrest) hd ⟨by omega, by omega⟩) (Y.S hbel) (fun q _ h => h.elim) (fun q h => h.elim) (fun r u t H1 locs1 ht hvm hr hB hz hk hS1 => ?_)
  have eH : H1 = H := by rw [← ht]; exact hB
  subst eH
  have er : r = x := hr
  subst er
  exact k _ locs1 _ _ ⟨Y.1, Y.2.1, hS1.2.2, hr1, hr2⟩
end XS9
theorem gx_0 : GoodIn Gw [Cond.methodLink "EstimateContest$Bins" 24 arraycopyName, .native arraycopyName, .static arraycopyName, .initialized "java/lang/System"] := xgw (by decide +kernel)
theorem gx_1 : GoodIn Gw [Cond.methodLink "EstimateContest$Bins" 38 Lib.Math.abs.name, .static Lib.Math.abs.name, .initialized "java/lang/Math", .code Lib.Math.abs.name Lib.Math.abs.code 1 (some .int)] := xgw (by decide +kernel)
theorem gx_2 : GoodIn Gw [Cond.methodLink "EstimateContest$Board" 56 arraycopyName, .native arraycopyName, .static arraycopyName, .initialized "java/lang/System"] := xgw (by decide +kernel)
theorem gx_3 : Cond.fieldLinkNest "EstimateContest$CommandText" 44 "EstimateContest$Command" "form" "Ljava/lang/String;" "EstimateContest" ∈ Gn := xgn (by decide +kernel) rfl
theorem gx_4 : GoodIn Gw [Cond.methodLink "EstimateContest$CommandText" 54 Lib.Math.max.name, .static Lib.Math.max.name, .initialized "java/lang/Math", .code Lib.Math.max.name Lib.Math.max.code 2 (some .int)] := xgw (by decide +kernel)
theorem gx_5 : GoodIn Gw [Cond.methodLink "EstimateContest$Coverage" 73 Lib.Math.max.name, .static Lib.Math.max.name, .initialized "java/lang/Math", .code Lib.Math.max.name Lib.Math.max.code 2 (some .int)] := xgw (by decide +kernel)
theorem gx_6 : GoodIn Gw [Cond.methodLink "EstimateContest$Coverage" 79 Lib.Math.min.name, .static Lib.Math.min.name, .initialized "java/lang/Math", .code Lib.Math.min.name Lib.Math.min.code 2 (some .int)] := xgw (by decide +kernel)
theorem gx_7 : GoodIn Gw [Cond.methodLink "EstimateContest$Estimate" 39 Lib.Math.max.name, .static Lib.Math.max.name, .initialized "java/lang/Math", .code Lib.Math.max.name Lib.Math.max.code 2 (some .int)] := xgw (by decide +kernel)
theorem gx_8 : GoodIn Gw [Cond.methodLink "EstimateContest$History" 29 Lib.Math.min.name, .static Lib.Math.min.name, .initialized "java/lang/Math", .code Lib.Math.min.name Lib.Math.min.code 2 (some .int)] := xgw (by decide +kernel)
theorem gx_9 : GoodIn Gw [Cond.methodLink "EstimateContest" 227 Lib.Math.min.name, .static Lib.Math.min.name, .initialized "java/lang/Math", .code Lib.Math.min.name Lib.Math.min.code 2 (some .int)] := xgw (by decide +kernel)
theorem gx_10 : GoodIn Gw (va_wsU "EstimateContest" 379 "EstimateContest$Fault" "java/lang/Enum" ⟨"EstimateContest$Fault", "ordinal", "()I"⟩ yJx29ce0_ordinal_8abf5 wOrd) := xgw (by decide +kernel)
theorem gx_11 : GoodIn Gw (va_wsU "EstimateContest" 434 "EstimateContest$Command" "java/lang/Enum" ⟨"EstimateContest$Command", "ordinal", "()I"⟩ yJx29ce0_ordinal_8abf5 wOrd) := xgw (by decide +kernel)
theorem gx_12 : GoodIn Gw [Cond.methodLink "java/lang/AbstractStringBuilder" 138 Lib.Math.min.name, .static Lib.Math.min.name, .initialized "java/lang/Math", .code Lib.Math.min.name Lib.Math.min.code 2 (some .int)] := xgw (by decide +kernel)
theorem gx_13 : GoodIn Gw ([Cond.methodLink "java/lang/AbstractStringBuilder" 144 yJ0_checkIndex_df160, .static yJ0_checkIndex_df160, .initialized yJ0_checkIndex_df160.cls] ++ wCki) := xgw (by decide +kernel)
theorem gx_14 : GoodIn Gw [Cond.methodLink "java/util/Arrays" 304 Lib.Math.min.name, .static Lib.Math.min.name, .initialized "java/lang/Math", .code Lib.Math.min.name Lib.Math.min.code 2 (some .int)] := xgw (by decide +kernel)
theorem gx_15 : GoodIn Gw [Cond.methodLink "java/util/Arrays" 150 arraycopyName, .native arraycopyName, .static arraycopyName, .initialized "java/lang/System"] := xgw (by decide +kernel)
theorem gx_16 : GoodIn Gw [Cond.methodLink "jdk/internal/util/ArraysSupport" 194 Lib.Math.max.name, .static Lib.Math.max.name, .initialized "java/lang/Math", .code Lib.Math.max.name Lib.Math.max.code 2 (some .int)] := xgw (by decide +kernel)
theorem gx_17 : Cond.fieldLink "java/lang/String" 9 "java/lang/String" "value" "[B" ∈ Gw := (xgw (ws := [Cond.fieldLink "java/lang/String" 9 "java/lang/String" "value" "[B"]) (by decide +kernel) _ List.mem_cons_self).1
theorem gx_18 : Cond.fieldLink "java/lang/String" 15 "java/lang/String" "coder" "B" ∈ Gw := (xgw (ws := [Cond.fieldLink "java/lang/String" 15 "java/lang/String" "coder" "B"]) (by decide +kernel) _ List.mem_cons_self).1
theorem gx_19 : GoodIn Gw ([Cond.methodLink "java/lang/StringLatin1" 9 yJ0_checkIndex_df160, .static yJ0_checkIndex_df160, .initialized yJ0_checkIndex_df160.cls] ++ wCki) := xgw (by decide +kernel)
theorem gx_20 : GoodIn Gw (va_wsO "java/lang/String" 549 "java/lang/StringBuilder" "java/lang/AbstractStringBuilder" yJ5_length_8abf5 yJ4_length_8abf5 wJ4l) := xgw (by decide +kernel)
theorem gx_21 : GoodIn Gw [Cond.methodLink "java/lang/String" 212 arraycopyName, .native arraycopyName, .static arraycopyName, .initialized "java/lang/System"] := xgw (by decide +kernel)
theorem yX_ok {s0 : State} {D : va_G} {xty : Nat → FieldType} {sa : Nat → Nat} {ro : Nat → Option (Nat × vp_A)} {l : Launch} {A : Array Value} {L : Nat} {xs : Nat → Int32} (hw : xWd s0 A sa L xs) (hz : xzq s0.heap.size s0 s0.heap) : xXok s0 D xcl xty sa 72 ro Gw Gn l yX xokX0 := by
  obtain ⟨w1, w2, w3, w4, -⟩ := hw
  intro p e R s m args below meth c H locs cells slots Q cc pc ls own mname c0 k0 h i as rest r C0 Y hls hst hfr hlo hX hok hlen hd hrest hrc hrs k
  obtain ⟨o, hm, hown⟩ := hok
  unfold LXl at hm
  have copy : ∀ (own2 : String) (j : Nat), own = own2 → i = (.invokestatic j, ((0, 5), ([], [4]))) → GoodIn Gw [Cond.methodLink own2 j arraycopyName, .native arraycopyName, .static arraycopyName, .initialized "java/lang/System"] → W p l e R s m args below meth c H locs cells slots Q (F0 m pc ls (xL sa (as.reverse ++ rest))) := by
    intro own2 j eo ei hG
    subst eo; subst ei
    rcases yXcopy_of hX with hX | hX
    · obtain ⟨a, sp, b, dp, n, t, n0, n1, f, g, rfl, ha, hb, h1, ⟨h2, h3, h4⟩, ⟨h5, h6⟩, h7, rfl⟩ := xXcopy_of hX
      exact xcpy_ok C0 Y hls hfr hlo hrest ha hb h1 h2 h3 h4 h5 h6 h7 hG hd k
    · obtain ⟨a, sp, b, dp, n, n1, l9, g, rfl, ha, hb, ⟨h2, h3, h4⟩, ⟨h5, h6⟩, h7, rfl⟩ := yXcpc_of hX
      obtain ⟨j9, hj9, e9, e8⟩ : ∃ j, j < 26 ∧ a = xsB j ∧ l9 = xfB j := by
        clear hX
        unfold yCb at ha
        split at ha
        · rename_i hc
          exact ⟨a - 24, by omega, (by unfold xsB; rw [if_pos (by omega)]; exact (Nat.add_sub_of_le hc.1).symm), (Option.some.inj ha).symm⟩
        · split at ha
          · rename_i hc
            exact ⟨a - 46, by omega, (by unfold xsB; rw [if_neg (by omega)]; exact (Nat.add_sub_of_le (Nat.le_trans (by decide) hc.1)).symm), (Option.some.inj ha).symm⟩
          · cases ha
      subst e9; subst e8
      exact xcpc_ok C0 Y hls hfr hlo hrest (w4 j9 hj9).2.2.2.2 hb h2 h3 h4 h5 h6 h7 hG hd k
  have cki : ∀ (own2 : String) (j : Nat), own = own2 → i = (.invokestatic j, ((4, 2), ([], [4]))) → GoodIn Gw ([Cond.methodLink own2 j yJ0_checkIndex_df160, .static yJ0_checkIndex_df160, .initialized yJ0_checkIndex_df160.cls] ++ wCki) → W p l e R s m args below meth c H locs cells slots Q (F0 m pc ls (xL sa (as.reverse ++ rest))) := by
    intro own2 j eo ei hG
    subst eo; subst ei
    obtain ⟨x, n, rfl, h1, h2, rfl⟩ := xXcki_of hX
    exact xcki_ok C0 Y hls hfr hlo hrc hrs hrest h1 h2 hz hG hd k
  rcases List.mem_cons.mp hm with hm | hm
  · cases hm; exact copy _ _ hown rfl gx_0
  rcases List.mem_cons.mp hm with hm | hm
  · cases hm
    subst hown
    rcases xXmath_of hX with ⟨x, y, q, -⟩ | ⟨x, y, q, -⟩ | ⟨x, -, rfl, rfl⟩
    · cases q
    · cases q
    · exact xmabs_ok C0 Y hls hfr hlo hrc hrs hrest gx_1 hd (k H locs cells slots Y)
  rcases List.mem_cons.mp hm with hm | hm
  · cases hm; exact copy _ _ hown rfl gx_2
  rcases List.mem_cons.mp hm with hm | hm
  · cases hm
    obtain ⟨a, rfl, h1, h2, rfl⟩ := xXfld_of hX
    obtain ⟨j, rfl⟩ : ∃ j, a = 6 + j := ⟨a - 6, by omega⟩
    subst hown
    refine xfld_ok C0 Y (v := .ref (6 + j + 10)) ?_ (Or.inr ⟨_, gx_3⟩) hd (k H locs cells slots Y)
    have := w3 j (by omega)
    rw [show 16 + j = 6 + j + 10 by omega] at this
    exact this
  rcases List.mem_cons.mp hm with hm | hm
  · cases hm
    subst hown
    rcases xXmath_of hX with ⟨x, y, -, rfl, rfl⟩ | ⟨x, y, q, -⟩ | ⟨x, q, -⟩
    · exact xmmax_ok C0 Y hls hfr hlo hrc hrs hrest gx_4 hd (k H locs cells slots Y)
    · cases q
    · cases q
  rcases List.mem_cons.mp hm with hm | hm
  · cases hm
    subst hown
    rcases xXmath_of hX with ⟨x, y, -, rfl, rfl⟩ | ⟨x, y, q, -⟩ | ⟨x, q, -⟩
    · exact xmmax_ok C0 Y hls hfr hlo hrc hrs hrest gx_5 hd (k H locs cells slots Y)
    · cases q
    · cases q
  rcases List.mem_cons.mp hm with hm | hm
  · cases hm
    subst hown
    rcases xXmath_of hX with ⟨x, y, q, -⟩ | ⟨x, y, -, rfl, rfl⟩ | ⟨x, q, -⟩
    · cases q
    · exact xmmin_ok C0 Y hls hfr hlo hrc hrs hrest gx_6 hd (k H locs cells slots Y)
    · cases q
  rcases List.mem_cons.mp hm with hm | hm
  · cases hm
    subst hown
    rcases xXmath_of hX with ⟨x, y, -, rfl, rfl⟩ | ⟨x, y, q, -⟩ | ⟨x, q, -⟩
    · exact xmmax_ok C0 Y hls hfr hlo hrc hrs hrest gx_7 hd (k H locs cells slots Y)
    · cases q
    · cases q
  rcases List.mem_cons.mp hm with hm | hm
  · cases hm
    subst hown
    rcases xXmath_of hX with ⟨x, y, q, -⟩ | ⟨x, y, -, rfl, rfl⟩ | ⟨x, q, -⟩
    · cases q
    · exact xmmin_ok C0 Y hls hfr hlo hrc hrs hrest gx_8 hd (k H locs cells slots Y)
    · cases q
  rcases List.mem_cons.mp hm with hm | hm
  · cases hm
    subst hown
    rcases xXmath_of hX with ⟨x, y, q, -⟩ | ⟨x, y, -, rfl, rfl⟩ | ⟨x, q, -⟩
    · cases q
    · exact xmmin_ok C0 Y hls hfr hlo hrc hrs hrest gx_9 hd (k H locs cells slots Y)
    · cases q
  rcases List.mem_cons.mp hm with hm | hm
  · cases hm
    obtain ⟨a, rfl, h1, h2, rfl⟩ := xXord_of hX
    subst hown
    obtain ⟨g1, g2, g3⟩ := w1 a (by omega)
    have e1 : xcE a = "EstimateContest$Fault" := if_pos (by omega)
    rw [e1] at g2
    exact xord_ok C0 Y hls hfr hlo hrc hrs hrest g2 g3 gx_10 hd k
  rcases List.mem_cons.mp hm with hm | hm
  · cases hm
    obtain ⟨a, rfl, h1, h2, rfl⟩ := xXord_of hX
    subst hown
    obtain ⟨g1, g2, g3⟩ := w1 a (by omega)
    have e1 : xcE a = "EstimateContest$Command" := if_neg (by omega)
    rw [e1] at g2
    exact xord_ok C0 Y hls hfr hlo hrc hrs hrest g2 g3 gx_11 hd k
  rcases List.mem_cons.mp hm with hm | hm
  · cases hm
    subst hown
    rcases xXmath_of hX with ⟨x, y, q, -⟩ | ⟨x, y, -, rfl, rfl⟩ | ⟨x, q, -⟩
    · cases q
    · exact xmmin_ok C0 Y hls hfr hlo hrc hrs hrest gx_12 hd (k H locs cells slots Y)
    · cases q
  rcases List.mem_cons.mp hm with hm | hm
  · cases hm; exact cki _ _ hown rfl gx_13
  rcases List.mem_cons.mp hm with hm | hm
  · cases hm
    subst hown
    rcases xXmath_of hX with ⟨x, y, q, -⟩ | ⟨x, y, -, rfl, rfl⟩ | ⟨x, q, -⟩
    · cases q
    · exact xmmin_ok C0 Y hls hfr hlo hrc hrs hrest gx_14 hd (k H locs cells slots Y)
    · cases q
  rcases List.mem_cons.mp hm with hm | hm
  · cases hm; exact copy _ _ hown rfl gx_15
  rcases List.mem_cons.mp hm with hm | hm
  · cases hm
    subst hown
    rcases xXmath_of hX with ⟨x, y, -, rfl, rfl⟩ | ⟨x, y, q, -⟩ | ⟨x, q, -⟩
    · exact xmmax_ok C0 Y hls hfr hlo hrc hrs hrest gx_16 hd (k H locs cells slots Y)
    · cases q
    · cases q
  rcases List.mem_cons.mp hm with hm | hm
  · cases hm
    subst hown
    rcases yXval_of hX with ⟨j, hj, rfl, rfl⟩ | hX
    · exact xfld_ok C0 Y (v := .ref (xsB j)) (w4 j hj).2.2.2.1 (Or.inl gx_17) hd (k H locs cells slots Y)
    · obtain ⟨a, fs, v, rfl, ha, hv, rfl⟩ := yXhf_of hX
      exact xhf_ok C0 Y ha hv ⟨_, _, _, rfl, by decide, uw_RJ0, Or.inl gx_17⟩ hd (k H locs cells slots Y)
  rcases List.mem_cons.mp hm with hm | hm
  · cases hm
    subst hown
    rcases yXcod_of hX with ⟨j, hj, rfl, rfl⟩ | hX
    · exact xfld_ok C0 Y (v := .int 0) (w4 j hj).2.2.1 (Or.inl gx_18) hd (k H locs cells slots Y)
    · obtain ⟨a, fs, v, rfl, ha, hv, rfl⟩ := yXhf_of hX
      exact xhf_ok C0 Y ha hv ⟨_, _, _, rfl, by decide, uw_RJ0, Or.inl gx_18⟩ hd (k H locs cells slots Y)
  rcases List.mem_cons.mp hm with hm | hm
  · cases hm; exact cki _ _ hown rfl gx_19
  rcases List.mem_cons.mp hm with hm | hm
  · cases hm
    subst hown
    obtain ⟨a, fs, x, rfl, ha, hv, rfl⟩ := yXhI_of hX
    exact xsbl_ok C0 Y hls hfr hlo hrc hrs hrest ha hv uw_RJ4 (xg (by decide +kernel) rfl) gx_20 hd k
  rcases List.mem_cons.mp hm with hm | hm
  · cases hm; exact copy _ _ hown rfl gx_21
  cases hm
