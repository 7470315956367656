/-! the heap's rows, tied to the machine -/
theorem xAOA_moved {t : FieldType} {u U : State} (hvm : u.vm.Alike U.vm) (h : va_AOA t u) : va_AOA t U := over_moved (a := #[]) (a' := #[]) hvm h
/-- what holds inside a method, all along -/
def xCx (s0 : State) (D : va_G) (cl : List vw_C) (xty : Nat → FieldType) (sa : Nat → Nat) (nr : Nat) (ro : Nat → Option (Nat × vp_A)) (Gw Gn : List Jvm.Cond) (p : Program) (s : State) (m : MethodId) (args : Array Value) (meth : Method) (c : Code) (cc : ByteArray) (own mname : String) : Prop :=
  p.tables.exec = Jvm.exec ∧ c.code = cc ∧ s.vm.findClass own = some m.cls ∧ meth.name = mname ∧ (∀ w ∈ Gw, w.before args s = true) ∧ (∀ w ∈ Gn, va_Nw w s0) ∧ s0.WarmedH s.vm ∧ (∀ ci q, cl[ci]? = some q → u_Kn s0 q.1 q.2.1 q.2.2 (D.1 ci) (D.2 ci)) ∧ xTY cl xty ∧ xSA s0 sa nr ∧ xRO s0 xty sa nr ro ∧ s0.heap.size ≤ s.heap.size ∧ (∀ q : Nat, q < s0.heap.size → s.heap[q]? = s0.heap[q]?)
/-- how far the method is -/
def xDy (s0 : State) (D : va_G) (cl : List vw_C) (xty : Nat → FieldType) (sa : Nat → Nat) (nr : Nat) (s : State) (c0 k0 : Nat) (h : XH) (H : Heap) (locs : List Loc) (cells slots : Nat) : Prop :=
  xRep s0 D cl xty sa nr h H ∧ s.heap.size ≤ H.size ∧ (∀ z ∈ locs, s0.heap.size ≤ z.base) ∧ c0 + cells = h.2.2.1 ∧ k0 + slots = h.2.2.2
theorem xDy.S {s0 : State} {D : va_G} {cl : List vw_C} {xty : Nat → FieldType} {sa : Nat → Nat} {nr : Nat} {s : State} {c0 k0 : Nat} {h : XH} {H : Heap} {locs : List Loc} {cells slots : Nat} (hy : xDy s0 D cl xty sa nr s c0 k0 h H locs cells slots) (hb : ∀ q : Nat, q < s0.heap.size → s.heap[q]? = s0.heap[q]?) : va_S (fun q => s0.heap.size ≤ q) s.heap H locs :=
  ⟨hy.2.1, fun q _ h2 => by rw [hb q (Nat.not_le.mp h2)]; exact hy.1.2.2.1 q (Nat.not_le.mp h2), hy.2.2.1⟩
theorem xV_get {sa : Nat → Nat} {fs : List Value} {k : Nat} {v : Value} (h : fs[k]? = some v) : vp_V (xL sa fs) k = xs sa v := by
  unfold vp_V xL
  rw [List.getD_eq_getElem?_getD, List.getElem?_map, h]
  rfl
theorem xloc {s0 : State} {locs : List Loc} {a k : Nat} (h : ∀ z ∈ locs, s0.heap.size ≤ z.base) (ha : s0.heap.size ≤ a) : ∀ z ∈ locs ++ [⟨a, k⟩], s0.heap.size ≤ z.base := by
  intro z hz
  rcases List.mem_append.mp hz with h1 | h1
  · exact h z h1
  · rw [List.mem_singleton.mp h1]
    exact ha
section XS3
variable {p : Program} {l : Launch} {e : Env} {R : Room} {s : State} {m : MethodId} {args : Array Value} {below : List Frame} {meth : Method} {c : Code} {H : Heap} {locs : List Loc} {cells slots : Nat} {Q : State → Prop} {cc : ByteArray} {pc : Nat} {ls : Array Slot}
variable {s0 : State} {D : va_G} {cl : List vw_C} {xty : Nat → FieldType} {sa : Nat → Nat} {nr : Nat} {ro : Nat → Option (Nat × vp_A)} {Gw Gn : List Jvm.Cond} {own mname : String} {c0 k0 : Nat} {h : XH}
theorem xget_ok (C0 : xCx s0 D cl xty sa nr ro Gw Gn p s m args meth c cc own mname) (Y : xDy s0 D cl xty sa nr s c0 k0 h H locs cells slots) {i ci j : Nat} {st r : List Value} (he : xget1 ci j h st = some r) (hok : xokG cl Gw Gn own i ci j) (hd : decode cc pc = .ok (.getfield i, 3)) (k : W p l e R s m args below meth c H locs cells slots Q (F0 m (pc + 3) ls (xL sa r))) : W p l e R s m args below meth c H locs cells slots Q (F0 m pc ls (xL sa st)) := by
  obtain ⟨hx, hb, hown, hmn, hts, hn, hW0, hKc, hTY, hSA, hRO, hsz, hbel⟩ := C0
  obtain ⟨C, T, N, hc, hj, hin, hlink⟩ := hok
  unfold xget1 at he
  split at he
  · rename_i a r0
    split at he
    · rename_i q hq
      obtain ⟨ci', fs⟩ := q
      cases hcc : Nat.beq ci' ci with
      | false => simp only [hcc] at he; cases he
      | true =>
        have e1 : ci' = ci := Nat.eq_of_beq_eq_true hcc
        subst e1
        simp only [hcc, cond_true] at he
        split at he
        · rename_i v hv
          cases he
          obtain ⟨-, r, h1, ⟨cell, q1, q2, q3, q4⟩, h3⟩ := Y.1.1 a _ hq
          have hr : r = (C, T, N) := Option.some.inj (h1.symm.trans hc)
          subst hr
          obtain ⟨hS, hfc, kC, hkC, hkind⟩ := u_Kn_moved hW0.alike (hKc _ _ hc)
          obtain ⟨cf, kf, fi, f, hi, hsl⟩ := hS j hj
          have hi2 : s.fieldFound? (T j).1 (T j).2.1 (T j).2.2.1 = some (cf, kf, fi, f) := hi
          have hslot : cell.slots[f.slot]? = some (xs sa v) := by rw [hsl, q4 j hj, xV_get hv]
          rcases hlink with hl | ⟨host, hl⟩
          · exact W.getf hx hb hown (hts _ hl) hi2 (u_facts hfc hkC (u_lays hts hin hj) hi).1 q1 (by rw [q3]; exact fun z => by cases z) hslot rfl rfl hd k
          · exact va_Wgetf hx hb hown (va_Nw.use rfl (va_Nw.warmF hW0 (hn _ hl))) hi2 (u_facts hfc hkC (u_lays hts hin hj) hi).1 q1 (by rw [q3]; exact fun z => by cases z) hslot rfl rfl hd k
        · cases he
    · cases he
  · cases he
theorem xfit_ok {t : Nat} {v : Value} {ty : FieldType} (h : xfit t v = true) (ht : xftp t ty) : narrow ty (xs sa v) = xs sa v ∧ fits ty (xs sa v) = true := by
  rcases ht with ⟨rfl, rfl⟩ | ⟨rfl, rfl⟩ | ⟨rfl, rfl⟩ | ⟨rfl, h1, h2, h3, h4⟩
  · cases v <;> first | exact ⟨rfl, rfl⟩ | cases h
  · cases v with
    | int x =>
      unfold xfit at h
      by_cases h0 : x = 0
      · subst h0; exact ⟨rfl, rfl⟩
      · by_cases h1 : x = 1
        · subst h1; exact ⟨rfl, rfl⟩
        · have h : (if x = 0 then true else if x = 1 then true else false) = true := h
          rw [if_neg h0, if_neg h1] at h
          cases h
    | _ => cases h
  · cases v with
    | int x =>
      have h : (if vp_nar .byte x = x then fits .byte (.int x) else false) = true := h
      split at h
      · rename_i hx
        refine ⟨?_, h⟩
        show narrow .byte (.int x) = .int x
        rw [show narrow .byte (.int x) = .int (vp_nar .byte x) from rfl, hx]
      · cases h
    | _ => cases h
  · cases v with
    | ref a => exact h2 _
    | null => exact ⟨h3, h4⟩
    | _ => cases h
theorem xput_ok (C0 : xCx s0 D cl xty sa nr ro Gw Gn p s m args meth c cc own mname) (Y : xDy s0 D cl xty sa nr s c0 k0 h H locs cells slots) {i ci j t : Nat} {st : List Value} {r : List Value × XH} (he : xput1 ci j t h st = some r) (hok : xokP cl Gw Gn own mname i ci j t) (hd : decode cc pc = .ok (.putfield i, 3)) (k : ∀ (H1 : Heap) (locs1 : List Loc) (cells1 slots1 : Nat), xDy s0 D cl xty sa nr s c0 k0 r.2 H1 locs1 cells1 slots1 → W p l e R s m args below meth c H1 locs1 cells1 slots1 Q (F0 m (pc + 3) ls (xL sa r.1))) : W p l e R s m args below meth c H locs cells slots Q (F0 m pc ls (xL sa st)) := by
  obtain ⟨hx, hb, hown, hmn, hts, hn, hW0, hKc, hTY, hSA, hRO, hsz, hbel⟩ := C0
  obtain ⟨C, T, N, tys, hc, hj, hin, hty, hnm, hft, hlink⟩ := hok
  unfold xput1 at he
  split at he
  · rename_i v a r0
    split at he
    · rename_i q hq
      obtain ⟨ci', fs⟩ := q
      cases hcc : (Nat.beq ci' ci && (xfit t v && Nat.blt j fs.length)) with
      | false => simp only [hcc] at he; cases he
      | true =>
        obtain ⟨b1, b2⟩ := Bool.and_eq_true_iff.mp hcc
        obtain ⟨b3, b4⟩ := Bool.and_eq_true_iff.mp b2
        have e1 : ci' = ci := Nat.eq_of_beq_eq_true b1
        subst e1
        simp only [hcc, cond_true] at he
        cases he
        obtain ⟨hna, r, h1, ⟨cell, q1, q2, q3, q4⟩, h3⟩ := Y.1.1 a _ hq
        have hr : r = (C, T, N) := Option.some.inj (h1.symm.trans hc)
        subst hr
        have hKn := u_Kn_moved hW0.alike (hKc _ _ hc)
        have hap : ∀ x y, x < N → y < N → x ≠ y → (D.2 ci') x ≠ (D.2 ci') y := by
          intro x y hx2 hy hne
          obtain ⟨hS, -⟩ := hKn
          obtain ⟨_, _, _, fa, hia, ea⟩ := hS x hx2
          obtain ⟨_, _, _, fb, hib, eb⟩ := hS y hy
          rw [← ea, ← eb]
          refine u_apart (u_lays hts hin hx2) (u_lays hts hin hy) hia hib ?_
          rw [(State.fieldFound?_type hia (hty x hx2)).1, (State.fieldFound?_type hib (hty y hy)).1]
          exact hnm x hx2 y hy hne
        obtain ⟨hS, hfc, kC, hkC, hkind⟩ := hKn
        obtain ⟨cf, kf, fi, f, hi, hsl⟩ := hS j hj
        have hi2 : s.fieldFound? (T j).1 (T j).2.1 (T j).2.2.1 = some (cf, kf, fi, f) := hi
        obtain ⟨hnar, hfit⟩ := xfit_ok (sa := sa) b3 hft
        have hst := (u_facts hfc hkC (u_lays hts hin hj) hi).1
        have hlt : f.slot < cell.slots.size := by rw [hsl]; exact k2_hasslot (q4 j hj)
        have fin : ∀ H1 : Heap, H1[sa a]? = some (cell.setSlot f.slot (xs sa v)) → H1.size = H.size → (∀ q, q ≠ sa a → H1[q]? = H[q]?) → W p l e R s m args below meth c H1 (locs ++ [⟨sa a, f.slot⟩]) cells slots Q (F0 m (pc + 3) ls (xL sa r0)) := by
          intro H1 g1 g2 g3
          rw [hsl] at g1 ⊢
          refine k H1 _ cells slots ⟨Y.1.put hSA hna ⟨_, hc, ?_, ?_⟩ g2 g3, by rw [g2]; exact Y.2.1, xloc Y.2.2.1 (hSA.le hna), Y.2.2.2⟩
          · have hset : xL sa (fs.set j v) = (xL sa fs).set j (xs sa v) := by unfold xL; exact List.map_set
            have hl2 : j < (xL sa fs).length := by unfold xL; rw [List.length_map]; exact xlt b4
            show t_OB (sa a) (D.1 ci') N (D.2 ci') H1 (vp_V (xL sa (fs.set j v)))
            rw [hset]
            exact t_OB.to (V := updV (vp_V (xL sa fs)) j (xs sa v)) ⟨_, g1, q2, q3, t_set q4 hap hj _⟩ (fun j2 _ => vp_updV_set hl2 _ j2)
          · show (fs.set j v).length = _
            rw [List.length_set]; exact h3
        have hlay := hts _ (hin _ (u_in_lay hj))
        unfold u_lay at hlay
        rcases hlink with ⟨hfin, hl⟩ | ⟨hfin, hm2, ho2, hl⟩
        · rw [if_neg (by rw [hfin]; decide)] at hlay
          have h6 := u_store hfc hkC hkind hlay hi (hty j hj) hnar hfit
          rcases hl with hl | ⟨host, hl⟩
          · exact W.putK hx hb (f := f) ⟨hown, hts _ hl, ⟨_, _, _, hi2⟩, hst⟩ (by rw [q2]; exact h6) q1 q3 hlt rfl rfl hd fin
          · exact va_WputK hx hb (f := f) hown (va_Nw.use rfl (va_Nw.warmF hW0 (hn _ hl))) hi2 hst (by rw [q2]; exact h6) q1 q3 hlt rfl rfl hd fin
        · rw [if_pos hfin] at hlay
          have hcf : m.cls = cf := by
            obtain ⟨_, _, c', _, _, _, -, -, hf', -, -, -, hown2, -⟩ := Cond.laysFinal_spec hlay
            have e1 : c' = cf := by have := hi.symm.trans hf'; simp at this; exact this.1.symm
            rw [ho2] at hown2
            rw [← e1]; exact Option.some.inj (hown.symm.trans hown2)
          have h6 := u_fits hfc hkC hkind (Or.inr hlay) hi (hty j hj) hnar hfit
          exact W.putFinK hx hb hown (hts _ hl) hi2 hst hcf (by rw [hmn]; exact hm2) (by rw [q2]; exact h6) q1 q3 hlt rfl rfl hd fin
    · cases he
  · cases he
theorem xald_of {kk : Nat} {st r : List Value} (he : xald ro nr h kk st = some r) : ∃ i a r0 t x, st = .int i :: .ref a :: r0 ∧ xarr ro nr h a = some (t, x) ∧ xtk kk t = true ∧ ¬ i < 0 ∧ i.toNatClampNeg < x.1 ∧ r = xsl x i.toNatClampNeg :: r0 := by
  unfold xald at he
  split at he
  · rename_i i a r0
    split at he
    · rename_i q hq
      obtain ⟨t, x⟩ := q
      cases hcc : (xtk kk t && xin i x.1) with
      | false => simp only [hcc] at he; cases he
      | true =>
        obtain ⟨b1, b2⟩ := Bool.and_eq_true_iff.mp hcc
        simp only [hcc, cond_true] at he
        cases he
        exact ⟨i, a, r0, t, x, rfl, hq, b1, (xin_ok b2).1, (xin_ok b2).2, rfl⟩
    · cases he
  · cases he
theorem xiald_ok (C0 : xCx s0 D cl xty sa nr ro Gw Gn p s m args meth c cc own mname) (Y : xDy s0 D cl xty sa nr s c0 k0 h H locs cells slots) {st r : List Value} (he : xald ro nr h 0 st = some r) (hd : decode cc pc = .ok (.iaload, 1)) (k : W p l e R s m args below meth c H locs cells slots Q (F0 m (pc + 1) ls (xL sa r))) : W p l e R s m args below meth c H locs cells slots Q (F0 m pc ls (xL sa st)) := by
  obtain ⟨hx, hb, hown, hmn, hts, hn, hW0, hKc, hTY, hSA, hRO, hsz, hbel⟩ := C0
  obtain ⟨i, a, r0, t, x, rfl, ha, hk, h0, hlt, rfl⟩ := xald_of he
  obtain ⟨cell, g1, g2, g3, g4, g5, g6⟩ := xarr_ok Y.1 hRO ha
  have ht : t = 0 := Nat.eq_of_beq_eq_true hk
  subst ht
  rw [hTY.1] at g2
  exact W.iald hx hb g1 (State.isArrayOf_alike hW0.alike g2) g3 (fun z => z.elim h0 (fun q => by omega)) (g6 _ hlt) rfl rfl hd k
theorem xlald_ok (C0 : xCx s0 D cl xty sa nr ro Gw Gn p s m args meth c cc own mname) (Y : xDy s0 D cl xty sa nr s c0 k0 h H locs cells slots) {st r : List Value} (he : xald ro nr h 1 st = some r) (hd : decode cc pc = .ok (.laload, 1)) (k : W p l e R s m args below meth c H locs cells slots Q (F0 m (pc + 1) ls (xL sa r))) : W p l e R s m args below meth c H locs cells slots Q (F0 m pc ls (xL sa st)) := by
  obtain ⟨hx, hb, hown, hmn, hts, hn, hW0, hKc, hTY, hSA, hRO, hsz, hbel⟩ := C0
  obtain ⟨i, a, r0, t, x, rfl, ha, hk, h0, hlt, rfl⟩ := xald_of he
  obtain ⟨cell, g1, g2, g3, g4, g5, g6⟩ := xarr_ok Y.1 hRO ha
  have ht : t = 1 := Nat.eq_of_beq_eq_true hk
  subst ht
  rw [hTY.2.1] at g2
  exact W.lald hx hb g1 (State.isArrayOf_alike hW0.alike g2) g3 (fun z => z.elim h0 (fun q => by omega)) (g6 _ hlt) rfl rfl hd k
theorem xdald_ok (C0 : xCx s0 D cl xty sa nr ro Gw Gn p s m args meth c cc own mname) (Y : xDy s0 D cl xty sa nr s c0 k0 h H locs cells slots) {st r : List Value} (he : xald ro nr h 2 st = some r) (hd : decode cc pc = .ok (.daload, 1)) (k : W p l e R s m args below meth c H locs cells slots Q (F0 m (pc + 1) ls (xL sa r))) : W p l e R s m args below meth c H locs cells slots Q (F0 m pc ls (xL sa st)) := by
  obtain ⟨hx, hb, hown, hmn, hts, hn, hW0, hKc, hTY, hSA, hRO, hsz, hbel⟩ := C0
  obtain ⟨i, a, r0, t, x, rfl, ha, hk, h0, hlt, rfl⟩ := xald_of he
  obtain ⟨cell, g1, g2, g3, g4, g5, g6⟩ := xarr_ok Y.1 hRO ha
  have ht : t = 2 := Nat.eq_of_beq_eq_true hk
  subst ht
  rw [hTY.2.2.1] at g2
  exact W.dald hx hb g1 (State.isArrayOf_alike hW0.alike g2) g3 (fun z => z.elim h0 (fun q => by omega)) (g6 _ hlt) rfl rfl hd k
theorem xcald_ok (C0 : xCx s0 D cl xty sa nr ro Gw Gn p s m args meth c cc own mname) (Y : xDy s0 D cl xty sa nr s c0 k0 h H locs cells slots) {st r : List Value} (he : xald ro nr h 3 st = some r) (hd : decode cc pc = .ok (.caload, 1)) (k : W p l e R s m args below meth c H locs cells slots Q (F0 m (pc + 1) ls (xL sa r))) : W p l e R s m args below meth c H locs cells slots Q (F0 m pc ls (xL sa st)) := by
  obtain ⟨hx, hb, hown, hmn, hts, hn, hW0, hKc, hTY, hSA, hRO, hsz, hbel⟩ := C0
  obtain ⟨i, a, r0, t, x, rfl, ha, hk, h0, hlt, rfl⟩ := xald_of he
  obtain ⟨cell, g1, g2, g3, g4, g5, g6⟩ := xarr_ok Y.1 hRO ha
  have ht : t = 3 := Nat.eq_of_beq_eq_true hk
  subst ht
  rw [hTY.2.2.2.1] at g2
  exact W.cald hx hb g1 (State.isArrayOf_alike hW0.alike g2) g3 (fun z => z.elim h0 (fun q => by omega)) (g6 _ hlt) rfl rfl hd k
theorem xbald_ok (C0 : xCx s0 D cl xty sa nr ro Gw Gn p s m args meth c cc own mname) (Y : xDy s0 D cl xty sa nr s c0 k0 h H locs cells slots) {st r : List Value} (he : xald ro nr h 5 st = some r) (hd : decode cc pc = .ok (.baload, 1)) (k : W p l e R s m args below meth c H locs cells slots Q (F0 m (pc + 1) ls (xL sa r))) : W p l e R s m args below meth c H locs cells slots Q (F0 m pc ls (xL sa st)) := by
  obtain ⟨hx, hb, hown, hmn, hts, hn, hW0, hKc, hTY, hSA, hRO, hsz, hbel⟩ := C0
  obtain ⟨i, a, r0, t, x, rfl, ha, hk, h0, hlt, rfl⟩ := xald_of he
  obtain ⟨cell, g1, g2, g3, g4, g5, g6⟩ := xarr_ok Y.1 hRO ha
  have ht : t = 4 := Nat.eq_of_beq_eq_true hk
  subst ht
  rw [hTY.2.2.2.2.1] at g2
  exact W.bald hx hb g1 (State.isArrayOf_alike hW0.alike g2) g3 (fun z => z.elim h0 (fun q => by omega)) (g6 _ hlt) rfl rfl hd k
theorem xaald_ok (C0 : xCx s0 D cl xty sa nr ro Gw Gn p s m args meth c cc own mname) (Y : xDy s0 D cl xty sa nr s c0 k0 h H locs cells slots) {st r : List Value} (he : xald ro nr h 4 st = some r) (hd : decode cc pc = .ok (.aaload, 1)) (k : W p l e R s m args below meth c H locs cells slots Q (F0 m (pc + 1) ls (xL sa r))) : W p l e R s m args below meth c H locs cells slots Q (F0 m pc ls (xL sa st)) := by
  obtain ⟨hx, hb, hown, hmn, hts, hn, hW0, hKc, hTY, hSA, hRO, hsz, hbel⟩ := C0
  obtain ⟨i, a, r0, t, x, rfl, ha, hk, h0, hlt, rfl⟩ := xald_of he
  obtain ⟨cell, g1, g2, g3, g4, g5, g6⟩ := xarr_ok Y.1 hRO ha
  exact W.aald hx hb g1 (State.isArrayOf_alike hW0.alike g2) (hTY.2.2.2.2.2.2.1 t (Nat.le_of_ble_eq_true hk)) g3 (fun z => z.elim h0 (fun q => by omega)) (g6 _ hlt) rfl rfl hd k
theorem xln_ok (C0 : xCx s0 D cl xty sa nr ro Gw Gn p s m args meth c cc own mname) (Y : xDy s0 D cl xty sa nr s c0 k0 h H locs cells slots) {st r : List Value} (he : xln ro nr h st = some r) (hd : decode cc pc = .ok (.arraylength, 1)) (k : W p l e R s m args below meth c H locs cells slots Q (F0 m (pc + 1) ls (xL sa r))) : W p l e R s m args below meth c H locs cells slots Q (F0 m pc ls (xL sa st)) := by
  obtain ⟨hx, hb, hown, hmn, hts, hn, hW0, hKc, hTY, hSA, hRO, hsz, hbel⟩ := C0
  unfold xln at he
  split at he
  · rename_i a r0
    split at he
    · rename_i q hq
      obtain ⟨t, x⟩ := q
      cases he
      obtain ⟨cell, g1, g2, g3, g4, g5, g6⟩ := xarr_ok Y.1 hRO hq
      exact W.alen hx hb g1 (State.isArrayOf_alike hW0.alike g2) g5 rfl rfl hd k
    · cases he
  · cases he
theorem xast_of {kk : Nat} {st : List Value} {r : List Value × XH} (he : xast h kk st = some r) : ∃ v i a r0 t x y, st = v :: .int i :: .ref a :: r0 ∧ h.1 a = some (.inl (t, x)) ∧ xtk kk t = true ∧ ¬ i < 0 ∧ i.toNatClampNeg < x.1 ∧ xset h kk t x i.toNatClampNeg v = some y ∧ r = (r0, (xup h.1 a (.inl (t, y)), h.2)) := by
  unfold xast at he
  split at he
  · rename_i v i a r0
    split at he
    · rename_i q hq
      obtain ⟨t, x⟩ := q
      cases hcc : (xtk kk t && xin i x.1) with
      | false => simp only [hcc] at he; cases he
      | true =>
        obtain ⟨b1, b2⟩ := Bool.and_eq_true_iff.mp hcc
        simp only [hcc, cond_true] at he
        split at he
        · rename_i y hy
          cases he
          exact ⟨v, i, a, r0, t, x, y, rfl, hq, b1, (xin_ok b2).1, (xin_ok b2).2, hy, rfl⟩
        · cases he
    · cases he
  · cases he
theorem xin_n {i : Int32} {n sz : Nat} (h0 : ¬ i < 0) (h : i.toNatClampNeg < n) (hz : sz = n) : ¬ (i < 0 ∨ sz ≤ i.toNatClampNeg) := fun z => z.elim h0 (fun q => by omega)
theorem xst_fin (Y : xDy s0 D cl xty sa nr s c0 k0 h H locs cells slots) (hSA : xSA s0 sa nr) {a t j : Nat} {x y : vp_A} {cA : ClassId} {v : Value} (hq : h.1 a = some (.inl (t, x))) (g2 : ArrOfT s0 cA (xty t)) (g3 : va_RA s0 cA (xty t)) (hy : (vp_cell cA (xc sa x)).setSlot j v = vp_cell cA (xc sa y)) {r0 : List Value} {ln : Nat}
    (k : ∀ (H1 : Heap) (locs1 : List Loc) (cells1 slots1 : Nat), xDy s0 D cl xty sa nr s c0 k0 (xup h.1 a (.inl (t, y)), h.2) H1 locs1 cells1 slots1 → W p l e R s m args below meth c H1 locs1 cells1 slots1 Q (F0 m (pc + ln) ls (xL sa r0))) :
    ∀ H1 : Heap, H1[sa a]? = some ((vp_cell cA (xc sa x)).setSlot j v) → H1.size = H.size → (∀ q, q ≠ sa a → H1[q]? = H[q]?) → W p l e R s m args below meth c H1 (locs ++ [⟨sa a, j⟩]) cells slots Q (F0 m (pc + ln) ls (xL sa r0)) := by
  intro H1 e z oq
  have hna := (Y.1.1 a _ hq).1
  exact k H1 _ cells slots ⟨Y.1.put hSA hna ⟨cA, by rw [e, hy], g2, g3⟩ z oq, by rw [z]; exact Y.2.1, xloc Y.2.2.1 (hSA.le hna), Y.2.2.2⟩
theorem xiast_ok (C0 : xCx s0 D cl xty sa nr ro Gw Gn p s m args meth c cc own mname) (Y : xDy s0 D cl xty sa nr s c0 k0 h H locs cells slots) {st : List Value} {r : List Value × XH} (he : xast h 0 st = some r) (hd : decode cc pc = .ok (.iastore, 1)) (k : ∀ (H1 : Heap) (locs1 : List Loc) (cells1 slots1 : Nat), xDy s0 D cl xty sa nr s c0 k0 r.2 H1 locs1 cells1 slots1 → W p l e R s m args below meth c H1 locs1 cells1 slots1 Q (F0 m (pc + 1) ls (xL sa r.1))) : W p l e R s m args below meth c H locs cells slots Q (F0 m pc ls (xL sa st)) := by
  obtain ⟨hx, hb, hown, hmn, hts, hn, hW0, hKc, hTY, hSA, hRO, hsz, hbel⟩ := C0
  obtain ⟨v, i, a, r0, t, x, y, rfl, hq, hk, h0, hlt, hy, rfl⟩ := xast_of he
  have ht : t = 0 := Nat.eq_of_beq_eq_true hk
  subst ht
  obtain ⟨hna, cA, g1, g2, g3⟩ := Y.1.1 a _ hq
  obtain ⟨n, f | f | f | f | f⟩ := x
  · cases v with
    | int w =>
      cases hy
      have g2' : ArrOfT s cA .int := arrOfT_moved hW0.alike (by rw [← hTY.1]; exact g2)
      refine W.iast hx hb g1 (g2' n (fun j => .int (f j))) (fun q => by cases q) (xin_n h0 hlt (arrV_size _ _ _)) rfl rfl hd (xst_fin Y hSA hq g2 g3 ?_ k)
      show (arrV cA n (fun j => .int (f j))).setSlot i.toNatClampNeg (.int w) = arrV cA n (fun j => .int (upd f i.toNatClampNeg w j))
      rw [arrV_store]
      congr 1
      funext q
      by_cases hqq : q = i.toNatClampNeg
      · subst hqq
        simp [updV, upd, vp_updL, vf_upd, vp_nar, narrow]
      · simp [updV, upd, vp_updL, vf_upd, hqq]
    | _ => cases hy
  · cases v <;> cases hy
  · cases v <;> cases hy
  · cases v <;> cases hy
  · cases v <;> cases hy
theorem xcast_ok (C0 : xCx s0 D cl xty sa nr ro Gw Gn p s m args meth c cc own mname) (Y : xDy s0 D cl xty sa nr s c0 k0 h H locs cells slots) {st : List Value} {r : List Value × XH} (he : xast h 3 st = some r) (hd : decode cc pc = .ok (.castore, 1)) (k : ∀ (H1 : Heap) (locs1 : List Loc) (cells1 slots1 : Nat), xDy s0 D cl xty sa nr s c0 k0 r.2 H1 locs1 cells1 slots1 → W p l e R s m args below meth c H1 locs1 cells1 slots1 Q (F0 m (pc + 1) ls (xL sa r.1))) : W p l e R s m args below meth c H locs cells slots Q (F0 m pc ls (xL sa st)) := by
  obtain ⟨hx, hb, hown, hmn, hts, hn, hW0, hKc, hTY, hSA, hRO, hsz, hbel⟩ := C0
  obtain ⟨v, i, a, r0, t, x, y, rfl, hq, hk, h0, hlt, hy, rfl⟩ := xast_of he
  have ht : t = 3 := Nat.eq_of_beq_eq_true hk
  subst ht
  obtain ⟨hna, cA, g1, g2, g3⟩ := Y.1.1 a _ hq
  obtain ⟨n, f | f | f | f | f⟩ := x
  · cases v with
    | int w =>
      cases hy
      have g2' : ArrOfT s cA .char := arrOfT_moved hW0.alike (by rw [← hTY.2.2.2.1]; exact g2)
      refine W.cast hx hb g1 (g2' n (fun j => .int (f j))) (fun q => by cases q) (xin_n h0 hlt (arrV_size _ _ _)) rfl rfl hd (xst_fin Y hSA hq g2 g3 ?_ k)
      show (arrV cA n (fun j => .int (f j))).setSlot i.toNatClampNeg (narrow .char (.int w)) = arrV cA n (fun j => .int (upd f i.toNatClampNeg (vp_nar .char w) j))
      rw [arrV_store]
      congr 1
      funext q
      by_cases hqq : q = i.toNatClampNeg
      · subst hqq
        simp [updV, upd, vp_updL, vf_upd, vp_nar, narrow]
      · simp [updV, upd, vp_updL, vf_upd, hqq]
    | _ => cases hy
  · cases v <;> cases hy
  · cases v <;> cases hy
  · cases v <;> cases hy
  · cases v <;> cases hy
theorem xbast_ok (C0 : xCx s0 D cl xty sa nr ro Gw Gn p s m args meth c cc own mname) (Y : xDy s0 D cl xty sa nr s c0 k0 h H locs cells slots) {st : List Value} {r : List Value × XH} (he : xast h 5 st = some r) (hd : decode cc pc = .ok (.bastore, 1)) (k : ∀ (H1 : Heap) (locs1 : List Loc) (cells1 slots1 : Nat), xDy s0 D cl xty sa nr s c0 k0 r.2 H1 locs1 cells1 slots1 → W p l e R s m args below meth c H1 locs1 cells1 slots1 Q (F0 m (pc + 1) ls (xL sa r.1))) : W p l e R s m args below meth c H locs cells slots Q (F0 m pc ls (xL sa st)) := by
  obtain ⟨hx, hb, hown, hmn, hts, hn, hW0, hKc, hTY, hSA, hRO, hsz, hbel⟩ := C0
  obtain ⟨v, i, a, r0, t, x, y, rfl, hq, hk, h0, hlt, hy, rfl⟩ := xast_of he
  have ht : t = 4 := Nat.eq_of_beq_eq_true hk
  subst ht
  obtain ⟨hna, cA, g1, g2, g3⟩ := Y.1.1 a _ hq
  obtain ⟨n, f | f | f | f | f⟩ := x
  · cases v with
    | int w =>
      cases hy
      have g2' : ArrOfT s cA .byte := arrOfT_moved hW0.alike (by rw [← hTY.2.2.2.2.1]; exact g2)
      refine W.bast hx hb g1 (g2' n (fun j => .int (f j))) (fun q => by cases q) (xin_n h0 hlt (arrV_size _ _ _)) rfl rfl hd (xst_fin Y hSA hq g2 g3 ?_ k)
      show (arrV cA n (fun j => .int (f j))).setSlot i.toNatClampNeg (narrow .byte (.int w)) = arrV cA n (fun j => .int (upd f i.toNatClampNeg (vp_nar .byte w) j))
      rw [arrV_store]
      congr 1
      funext q
      by_cases hqq : q = i.toNatClampNeg
      · subst hqq
        simp [updV, upd, vp_updL, vf_upd, vp_nar, narrow]
      · simp [updV, upd, vp_updL, vf_upd, hqq]
    | _ => cases hy
  · cases v <;> cases hy
  · cases v <;> cases hy
  · cases v <;> cases hy
  · cases v <;> cases hy
theorem xlast_ok (C0 : xCx s0 D cl xty sa nr ro Gw Gn p s m args meth c cc own mname) (Y : xDy s0 D cl xty sa nr s c0 k0 h H locs cells slots) {st : List Value} {r : List Value × XH} (he : xast h 1 st = some r) (hd : decode cc pc = .ok (.lastore, 1)) (k : ∀ (H1 : Heap) (locs1 : List Loc) (cells1 slots1 : Nat), xDy s0 D cl xty sa nr s c0 k0 r.2 H1 locs1 cells1 slots1 → W p l e R s m args below meth c H1 locs1 cells1 slots1 Q (F0 m (pc + 1) ls (xL sa r.1))) : W p l e R s m args below meth c H locs cells slots Q (F0 m pc ls (xL sa st)) := by
  obtain ⟨hx, hb, hown, hmn, hts, hn, hW0, hKc, hTY, hSA, hRO, hsz, hbel⟩ := C0
  obtain ⟨v, i, a, r0, t, x, y, rfl, hq, hk, h0, hlt, hy, rfl⟩ := xast_of he
  have ht : t = 1 := Nat.eq_of_beq_eq_true hk
  subst ht
  obtain ⟨hna, cA, g1, g2, g3⟩ := Y.1.1 a _ hq
  obtain ⟨n, f | f | f | f | f⟩ := x
  · cases v <;> cases hy
  · cases v with
    | long w =>
      cases hy
      have g2' : ArrOfT s cA .long := arrOfT_moved hW0.alike (by rw [← hTY.2.1]; exact g2)
      refine W.last hx hb g1 (g2' n (fun j => .long (f j))) (fun q => by cases q) (xin_n h0 hlt (arrV_size _ _ _)) rfl rfl hd (xst_fin Y hSA hq g2 g3 ?_ k)
      show (arrV cA n (fun j => .long (f j))).setSlot i.toNatClampNeg (.long w) = arrV cA n (fun j => .long (vp_updL f i.toNatClampNeg w j))
      rw [arrV_store]
      congr 1
      funext q
      by_cases hqq : q = i.toNatClampNeg
      · subst hqq
        simp [updV, upd, vp_updL, vf_upd, vp_nar, narrow]
      · simp [updV, upd, vp_updL, vf_upd, hqq]
    | _ => cases hy
  · cases v <;> cases hy
  · cases v <;> cases hy
  · cases v <;> cases hy
theorem xdast_ok (C0 : xCx s0 D cl xty sa nr ro Gw Gn p s m args meth c cc own mname) (Y : xDy s0 D cl xty sa nr s c0 k0 h H locs cells slots) {st : List Value} {r : List Value × XH} (he : xast h 2 st = some r) (hd : decode cc pc = .ok (.dastore, 1)) (k : ∀ (H1 : Heap) (locs1 : List Loc) (cells1 slots1 : Nat), xDy s0 D cl xty sa nr s c0 k0 r.2 H1 locs1 cells1 slots1 → W p l e R s m args below meth c H1 locs1 cells1 slots1 Q (F0 m (pc + 1) ls (xL sa r.1))) : W p l e R s m args below meth c H locs cells slots Q (F0 m pc ls (xL sa st)) := by
  obtain ⟨hx, hb, hown, hmn, hts, hn, hW0, hKc, hTY, hSA, hRO, hsz, hbel⟩ := C0
  obtain ⟨v, i, a, r0, t, x, y, rfl, hq, hk, h0, hlt, hy, rfl⟩ := xast_of he
  have ht : t = 2 := Nat.eq_of_beq_eq_true hk
  subst ht
  obtain ⟨hna, cA, g1, g2, g3⟩ := Y.1.1 a _ hq
  obtain ⟨n, f | f | f | f | f⟩ := x
  · cases v <;> cases hy
  · cases v <;> cases hy
  · cases v <;> cases hy
  · cases v with
    | double w =>
      cases hy
      have g2' : ArrOfT s cA .double := arrOfT_moved hW0.alike (by rw [← hTY.2.2.1]; exact g2)
      refine W.dast hx hb g1 (g2' n (fun j => .double (f j))) (fun q => by cases q) (xin_n h0 hlt (arrV_size _ _ _)) rfl rfl hd (xst_fin Y hSA hq g2 g3 ?_ k)
      show (arrV cA n (fun j => .double (f j))).setSlot i.toNatClampNeg (.double w) = arrV cA n (fun j => .double (vf_upd f i.toNatClampNeg w j))
      rw [arrV_store]
      congr 1
      funext q
      by_cases hqq : q = i.toNatClampNeg
      · subst hqq
        simp [updV, upd, vp_updL, vf_upd, vp_nar, narrow]
      · simp [updV, upd, vp_updL, vf_upd, hqq]
    | _ => cases hy
  · cases v <;> cases hy
theorem xaast_ok (C0 : xCx s0 D cl xty sa nr ro Gw Gn p s m args meth c cc own mname) (Y : xDy s0 D cl xty sa nr s c0 k0 h H locs cells slots) {st : List Value} {r : List Value × XH} (he : xast h 4 st = some r) (hd : decode cc pc = .ok (.aastore, 1)) (k : ∀ (H1 : Heap) (locs1 : List Loc) (cells1 slots1 : Nat), xDy s0 D cl xty sa nr s c0 k0 r.2 H1 locs1 cells1 slots1 → W p l e R s m args below meth c H1 locs1 cells1 slots1 Q (F0 m (pc + 1) ls (xL sa r.1))) : W p l e R s m args below meth c H locs cells slots Q (F0 m pc ls (xL sa st)) := by
  obtain ⟨hx, hb, hown, hmn, hts, hn, hW0, hKc, hTY, hSA, hRO, hsz, hbel⟩ := C0
  obtain ⟨v, i, a, r0, t, x, y, rfl, hq, hk, h0, hlt, hy, rfl⟩ := xast_of he
  obtain ⟨hna, cA, g1, g2, g3⟩ := Y.1.1 a _ hq
  obtain ⟨n, f | f | f | f | f⟩ := x
  · cases v <;> cases hy
  · cases v <;> cases hy
  · cases v <;> cases hy
  · cases v <;> cases hy
  · cases v with
    | ref b =>
      have hy : (match h.1 b with
        | some (.inr q) => bif Nat.beq t (10 + q.1) then some ((n, .inr (.inr (.inr (.inr (va_up f i.toNatClampNeg (some b)))))) : vp_A) else none
        | _ => none) = some y := hy
      split at hy
      · rename_i q hq2
        obtain ⟨ci, fs⟩ := q
        cases hcc : Nat.beq t (10 + ci) with
        | false => simp only [hcc] at hy; cases hy
        | true =>
          have ht : t = 10 + ci := Nat.eq_of_beq_eq_true hcc
          subst ht
          simp only [hcc, cond_true] at hy
          cases hy
          obtain ⟨hnb, rr, hcl, ⟨cellV, v1, v2, v3, -⟩, -⟩ := Y.1.1 b _ hq2
          have hcls := (u_Kn_moved hW0.alike (hKc _ _ hcl)).2
          have htyO : xty (10 + ci) = .object rr.1 := hTY.2.2.2.2.2.2.2.1 ci rr hcl
          have g3' : va_RA s cA (.object rr.1) := (show va_RA s0 cA (.object rr.1) by rw [← htyO]; exact g3).moved hW0.alike
          obtain ⟨kA, comp, k1, k2, k3, -⟩ := g3'
          have hcomp : comp = D.1 ci := Option.some.inj (k3.symm.trans hcls.1)
          subst hcomp
          obtain ⟨kC, hkC, -⟩ := hcls.2
          refine W.aast hx hb g1 (fun q h => by cases h) (fun h => by cases h) k1 k2 rfl hkC ⟨h0, by show _ < (arrV _ _ _).slots.size; rw [arrV_size]; exact hlt⟩ v1 (fun q h => by rw [v3] at h; cases h) (by rw [v2]; exact hkC) (by rw [v2]; exact va_assign hcls) rfl rfl hd (xst_fin Y hSA hq g2 g3 ?_ k)
          show (arrV cA n (fun j => va_rf ((f j).map sa))).setSlot i.toNatClampNeg (.ref (sa b)) = arrV cA n (fun j => va_rf ((va_up f i.toNatClampNeg (some b) j).map sa))
          rw [arrV_store]
          congr 1
          funext q
          by_cases hqq : q = i.toNatClampNeg
          · subst hqq
            simp [updV, va_up, va_rf]
          · simp [updV, va_up, hqq]
      · cases hy
    | _ => cases hy
theorem xaast6_ok (C0 : xCx s0 D cl xty sa nr ro Gw Gn p s m args meth c cc own mname) (Y : xDy s0 D cl xty sa nr s c0 k0 h H locs cells slots) {st : List Value} {r : List Value × XH} (he : xast h 6 st = some r) (hov : va_AOA .int s0) (hd : decode cc pc = .ok (.aastore, 1)) (k : ∀ (H1 : Heap) (locs1 : List Loc) (cells1 slots1 : Nat), xDy s0 D cl xty sa nr s c0 k0 r.2 H1 locs1 cells1 slots1 → W p l e R s m args below meth c H1 locs1 cells1 slots1 Q (F0 m (pc + 1) ls (xL sa r.1))) : W p l e R s m args below meth c H locs cells slots Q (F0 m pc ls (xL sa st)) := by
  obtain ⟨hx, hb, hown, hmn, hts, hn, hW0, hKc, hTY, hSA, hRO, hsz, hbel⟩ := C0
  obtain ⟨v, i, a, r0, t, x, y, rfl, hq, hk, h0, hlt, hy, rfl⟩ := xast_of he
  have ht : t = 8 := Nat.eq_of_beq_eq_true hk
  subst ht
  obtain ⟨hna, cA, g1, g2, g3⟩ := Y.1.1 a _ hq
  obtain ⟨n, f | f | f | f | f⟩ := x
  · cases v <;> cases hy
  · cases v <;> cases hy
  · cases v <;> cases hy
  · cases v <;> cases hy
  · cases v with
    | ref b =>
      have hy : (match h.1 b with
        | some (.inl q) => bif Nat.beq q.1 0 then some ((n, .inr (.inr (.inr (.inr (va_up f i.toNatClampNeg (some b)))))) : vp_A) else none
        | _ => none) = some y := hy
      split at hy
      · rename_i q hq2
        obtain ⟨ti, xi⟩ := q
        cases hcc : Nat.beq ti 0 with
        | false => simp only [hcc] at hy; cases hy
        | true =>
          have ht : ti = 0 := Nat.eq_of_beq_eq_true hcc
          subst ht
          simp only [hcc, cond_true] at hy
          cases hy
          obtain ⟨hnb, cI, v1, v2, v3⟩ := Y.1.1 b _ hq2
          have e8 : xty 8 = .array .int := hTY.2.2.2.2.2.2.2.2
          have e0 : xty 0 = .int := hTY.1
          have g3' : va_RA s cA (.array .int) := (show va_RA s0 cA (.array .int) by rw [← e8]; exact g3).moved hW0.alike
          have v3' : va_RA s cI .int := (show va_RA s0 cI .int by rw [← e0]; exact v3).moved hW0.alike
          obtain ⟨comp, cA2, kA, hcomp, hidx, hkA, hkindA, hnameA⟩ := arrayOverA_spec (va_AOA.use (A := #[]) (xAOA_moved hW0.alike hov))
          have e1 : cA2 = cA := Option.some.inj (hnameA.symm.trans g3')
          have e2 : comp = cI := Option.some.inj (hcomp.symm.trans v3')
          subst e1
          subst e2
          obtain ⟨kI, hkI, -⟩ := Vm.findClass_spec hcomp
          have hrf : s.vm.assignable comp comp = true := by
            show s.vm.assignableAux (255 + 1) comp comp = true
            unfold Vm.assignableAux
            rw [beq_self_eq_true, Bool.true_or]
          refine W.aast hx hb g1 (fun q h => by cases h) (fun h => by cases h) hkA hkindA rfl hkI ⟨h0, by show _ < (arrV _ _ _).slots.size; rw [arrV_size]; exact hlt⟩ v1 (fun q h => by obtain ⟨n9, f9 | f9 | f9 | f9 | f9⟩ := xi <;> cases h) (by obtain ⟨n9, f9 | f9 | f9 | f9 | f9⟩ := xi <;> exact hkI) (by obtain ⟨n9, f9 | f9 | f9 | f9 | f9⟩ := xi <;> exact hrf) rfl rfl hd (xst_fin Y hSA hq g2 g3 ?_ k)
          show (arrV cA2 n (fun j => va_rf ((f j).map sa))).setSlot i.toNatClampNeg (.ref (sa b)) = arrV cA2 n (fun j => va_rf ((va_up f i.toNatClampNeg (some b) j).map sa))
          rw [arrV_store]
          congr 1
          funext q
          by_cases hqq : q = i.toNatClampNeg
          · subst hqq
            simp [updV, va_up, va_rf]
          · simp [updV, va_up, hqq]
      · cases hy
    | _ => cases hy
end XS3
