/-! what is made: objects and arrays; and all rows of the heap in one -/
section XS4
variable {p : Program} {l : Launch} {e : Env} {R : Room} {s : State} {m : MethodId} {args : Array Value} {below : List Frame} {meth : Method} {c : Code} {H : Heap} {locs : List Loc} {cells slots : Nat} {Q : State → Prop} {cc : ByteArray} {pc : Nat} {ls : Array Slot}
variable {s0 : State} {D : va_G} {cl : List vw_C} {xty : Nat → FieldType} {sa : Nat → Nat} {nr : Nat} {ro : Nat → Option (Nat × vp_A)} {Gw Gn : List Jvm.Cond} {own mname : String} {c0 k0 : Nat} {h : XH}
theorem xL_noref {fs : List Value} (h : ∀ v ∈ fs, ∀ a, v ≠ .ref a) : xL sa fs = fs := by
  induction fs with
  | nil => rfl
  | cons v r ih =>
    have h1 : xs sa v = v := by
      cases v with
      | ref a => exact absurd rfl (h (.ref a) List.mem_cons_self a)
      | _ => rfl
    show xs sa v :: xL sa r = v :: r
    rw [h1, ih (fun w hw => h w (List.mem_cons_of_mem _ hw))]
theorem xnew_ok (C0 : xCx s0 D cl xty sa nr ro Gw Gn p s m args meth c cc own mname) (Y : xDy s0 D cl xty sa nr s c0 k0 h H locs cells slots) {i ci n : Nat} {fs st : List Value} {r : List Value × XH} (he : xnew1 nr ci n fs h st = some r) (hok : xokN cl Gw own i ci n fs) (hd : decode cc pc = .ok (.new i, 3)) (hrc : r.2.2.2.1 ≤ c0 + R.cells) (hrs : r.2.2.2.2 ≤ k0 + R.slots) (k : ∀ (H1 : Heap) (locs1 : List Loc) (cells1 slots1 : Nat), xDy s0 D cl xty sa nr s c0 k0 r.2 H1 locs1 cells1 slots1 → W p l e R s m args below meth c H1 locs1 cells1 slots1 Q (F0 m (pc + 3) ls (xL sa r.1))) : W p l e R s m args below meth c H locs cells slots Q (F0 m pc ls (xL sa st)) := by
  obtain ⟨hx, hb, hown, hmn, hts, hn, hW0, hKc, hTY, hSA, hRO, hsz, hbel⟩ := C0
  obtain ⟨C, T, tys, hc, hin, hty, w1, w2, w3, hfl, hdf, hnr⟩ := hok
  unfold xnew1 at he
  split at he
  · rename_i kk hk
    cases he
    have hKn := u_Kn_moved hW0.alike (hKc _ _ hc)
    have hHs := Y.1.2.1 _ hk
    have hsa : sa (nr + kk) = H.size := by rw [hSA _ (by omega)]; omega
    have hcc : c0 + cells = h.2.2.1 := Y.2.2.2.1
    have hks : k0 + slots = h.2.2.2 := Y.2.2.2.2
    have hrc : h.2.2.1 + 1 ≤ c0 + R.cells := hrc
    have hrs : h.2.2.2 + n ≤ k0 + R.slots := hrs
    refine W.newcK hx hb hown (hts _ w1) (hts _ w2) (hts _ w3) rfl hd (by omega) (by omega) hKn.2.1 rfl fun H1 kC hkC e1 z1 o1 => ?_
    have kk2 := k H1 locs (cells + 1) (slots + n) ⟨Y.1.push hk ⟨_, hc, ?_, hfl⟩ z1 o1, by rw [z1]; have := Y.2.1; omega, Y.2.2.1, by show c0 + (cells + 1) = h.2.2.1 + 1; omega, by show k0 + (slots + n) = h.2.2.2 + n; omega⟩
    · have kk3 : W p l e R s m args below meth c H1 locs (cells + 1) (slots + n) Q (F0 m (pc + 3) ls (.ref (sa (nr + kk)) :: xL sa st)) := kk2
      rw [hsa] at kk3
      exact kk3
    · show t_OB (sa (nr + kk)) (D.1 ci) n (D.2 ci) H1 (vp_V (xL sa fs))
      rw [xL_noref hnr, hsa]
      exact (u_born tys hts hin hKn hkC e1 hty).to hdf
  · cases he
theorem xzero_ok {ty : ArrayType} {N : Nat} {z : vp_A} (h : xzero (xtA ty) N = some z) : (∀ cA, vp_cell cA (xc sa z) = arrV cA N (fun _ => defaultValue (newarray.typeOf ty))) ∧ componentBytes (newarray.typeOf ty) ≤ 8 ∧ ∀ cl xty, xTY cl xty → xty (xtA ty) = newarray.typeOf ty := by
  cases ty <;> first | (cases h; exact ⟨fun _ => rfl, by decide, fun _ _ q => q.1⟩) | (cases h; exact ⟨fun _ => rfl, by decide, fun _ _ q => q.2.1⟩) | (cases h; exact ⟨fun _ => rfl, by decide, fun _ _ q => q.2.2.1⟩) | (cases h; exact ⟨fun _ => rfl, by decide, fun _ _ q => q.2.2.2.1⟩) | (cases h; exact ⟨fun _ => rfl, by decide, fun _ _ q => q.2.2.2.2.1⟩) | cases h
theorem xnewa_ok (C0 : xCx s0 D cl xty sa nr ro Gw Gn p s m args meth c cc own mname) (Y : xDy s0 D cl xty sa nr s c0 k0 h H locs cells slots) {ty : ArrayType} {st : List Value} {r : List Value × XH} (he : xnewa nr ty h st = some r) (hok : Cond.arrayClass (newarray.typeOf ty) ∈ Gw) (hd : decode cc pc = .ok (.newarray ty, 2)) (hrc : r.2.2.2.1 ≤ c0 + R.cells) (hrs : r.2.2.2.2 ≤ k0 + R.slots) (k : ∀ (H1 : Heap) (locs1 : List Loc) (cells1 slots1 : Nat), xDy s0 D cl xty sa nr s c0 k0 r.2 H1 locs1 cells1 slots1 → W p l e R s m args below meth c H1 locs1 cells1 slots1 Q (F0 m (pc + 2) ls (xL sa r.1))) : W p l e R s m args below meth c H locs cells slots Q (F0 m pc ls (xL sa st)) := by
  obtain ⟨hx, hb, hown, hmn, hts, hn, hW0, hKc, hTY, hSA, hRO, hsz, hbel⟩ := C0
  unfold xnewa at he
  split at he
  · rename_i n r0 kk hk
    cases hcc : xin n 65536 with
    | false => simp only [hcc] at he; cases he
    | true =>
      simp only [hcc, cond_true] at he
      split at he
      · rename_i z hz
        cases he
        obtain ⟨n0, n1⟩ := xin_ok hcc
        obtain ⟨z1, z2, z3⟩ := xzero_ok (sa := sa) hz
        have hHs := Y.1.2.1 _ hk
        have hsa : sa (nr + kk) = H.size := by rw [hSA _ (by omega)]; omega
        have hcc : c0 + cells = h.2.2.1 := Y.2.2.2.1
        have hks : k0 + slots = h.2.2.2 := Y.2.2.2.2
        have hrc : h.2.2.1 + 1 ≤ c0 + R.cells := hrc
        have hrs : h.2.2.2 + n.toNatClampNeg ≤ k0 + R.slots := hrs
        have hby : n.toNatClampNeg * componentBytes (newarray.typeOf ty) ≤ 536870912 := Nat.le_trans (Nat.mul_le_mul (Nat.le_of_lt n1) z2) (Nat.le_of_ble_eq_true rfl)
        refine va_newaK (atype := ty) hx hb (hts _ hok) rfl hd rfl n0 rfl hby (by omega) (by omega) rfl fun H1 cA e1 q1 o1 hAr hNm => ?_
        have kk2 := k H1 locs (cells + 1) (slots + n.toNatClampNeg) ⟨Y.1.push hk ⟨cA, ?_, ?_, ?_⟩ q1 o1, by rw [q1]; have := Y.2.1; omega, Y.2.2.1, by show c0 + (cells + 1) = h.2.2.1 + 1; omega, by show k0 + (slots + n.toNatClampNeg) = h.2.2.2 + n.toNatClampNeg; omega⟩
        · have kk3 : W p l e R s m args below meth c H1 locs (cells + 1) (slots + n.toNatClampNeg) Q (F0 m (pc + 2) ls (.ref (sa (nr + kk)) :: xL sa r0)) := kk2
          rw [hsa] at kk3
          exact kk3
        · show H1[sa (nr + kk)]? = some (vp_cell cA (xc sa z))
          rw [hsa, z1]
          exact e1
        · show ArrOfT s0 cA (xty (xtA ty))
          rw [z3 _ _ hTY]
          exact arrOfT_moved hW0.alike.symm hAr
        · show va_RA s0 cA (xty (xtA ty))
          rw [z3 _ _ hTY]
          refine va_RA.moved (u := s) hW0.alike.symm ?_
          cases ty <;> exact hNm
      · cases he
  · cases he
theorem xnewq_ok (C0 : xCx s0 D cl xty sa nr ro Gw Gn p s m args meth c cc own mname) (Y : xDy s0 D cl xty sa nr s c0 k0 h H locs cells slots) {i ci : Nat} {st : List Value} {r : List Value × XH} (he : xnewq nr ci h st = some r) (hok : ∃ q : vw_C, cl[ci]? = some q ∧ Cond.classLink own i q.1 ∈ Gw ∧ va_AO q.1 s0) (hd : decode cc pc = .ok (.anewarray i, 3)) (hrc : r.2.2.2.1 ≤ c0 + R.cells) (hrs : r.2.2.2.2 ≤ k0 + R.slots) (k : ∀ (H1 : Heap) (locs1 : List Loc) (cells1 slots1 : Nat), xDy s0 D cl xty sa nr s c0 k0 r.2 H1 locs1 cells1 slots1 → W p l e R s m args below meth c H1 locs1 cells1 slots1 Q (F0 m (pc + 3) ls (xL sa r.1))) : W p l e R s m args below meth c H locs cells slots Q (F0 m pc ls (xL sa st)) := by
  obtain ⟨hx, hb, hown, hmn, hts, hn, hW0, hKc, hTY, hSA, hRO, hsz, hbel⟩ := C0
  obtain ⟨q, hc, w1, w2⟩ := hok
  unfold xnewq at he
  split at he
  · rename_i n r0 kk hk
    cases hcc : xin n 65536 with
    | false => simp only [hcc] at he; cases he
    | true =>
      simp only [hcc, cond_true] at he
      cases he
      obtain ⟨n0, n1⟩ := xin_ok hcc
      have hHs := Y.1.2.1 _ hk
      have hsa : sa (nr + kk) = H.size := by rw [hSA _ (by omega)]; omega
      have hcc : c0 + cells = h.2.2.1 := Y.2.2.2.1
      have hks : k0 + slots = h.2.2.2 := Y.2.2.2.2
      have hrc : h.2.2.1 + 1 ≤ c0 + R.cells := hrc
      have hrs : h.2.2.2 + n.toNatClampNeg ≤ k0 + R.slots := hrs
      refine W.anew hx hb hown (hts _ w1) (va_AO.use (va_AO.moved hW0.alike w2)) rfl hd rfl n0 (by omega) (by omega) (by omega) fun cA kA comp f1 f2 f3 f4 => ?_
      have z1 : (H.push { cls := cA, slots := Array.replicate n.toNatClampNeg .null, vm := .none }).size = H.size + 1 := by simp
      have kk2 := k (H.push { cls := cA, slots := Array.replicate n.toNatClampNeg .null, vm := .none }) locs (cells + 1) (slots + n.toNatClampNeg) ⟨Y.1.push hk ⟨cA, ?_, ?_, ?_⟩ z1 (fun q hq => by rw [Array.getElem?_push, if_neg (Nat.ne_of_lt hq)]), by rw [z1]; have := Y.2.1; omega, Y.2.2.1, by show c0 + (cells + 1) = h.2.2.1 + 1; omega, by show k0 + (slots + n.toNatClampNeg) = h.2.2.2 + n.toNatClampNeg; omega⟩
      · have kk3 : W p l e R s m args below meth c (H.push { cls := cA, slots := Array.replicate n.toNatClampNeg .null, vm := .none }) locs (cells + 1) (slots + n.toNatClampNeg) Q (F0 m (pc + 3) ls (.ref (sa (nr + kk)) :: xL sa r0)) := kk2
        rw [hsa] at kk3
        exact kk3
      · show (H.push _)[sa (nr + kk)]? = some (arrV cA n.toNatClampNeg (fun _ => va_rf ((none : Option Nat).map sa)))
        rw [hsa, arrV_new]
        simp [va_rf]
      · show ArrOfT s0 cA (xty (10 + ci))
        rw [hTY.2.2.2.2.2.2.2.1 ci q hc]
        exact arrOfT_moved hW0.alike.symm (fun n z => ⟨fun k h => (by cases h), kA, f2, comp, f3⟩)
      · show va_RA s0 cA (xty (10 + ci))
        rw [hTY.2.2.2.2.2.2.2.1 ci q hc]
        exact va_RA.moved (u := s) hW0.alike.symm ⟨kA, comp, f2, f3, f4, f1⟩
  · cases he
theorem xnewqI_ok (C0 : xCx s0 D cl xty sa nr ro Gw Gn p s m args meth c cc own mname) (Y : xDy s0 D cl xty sa nr s c0 k0 h H locs cells slots) {i : Nat} {st : List Value} {r : List Value × XH} (he : xnewqI nr h st = some r) (w1 : Cond.classLink own i (FieldType.array .int).toString ∈ Gw) (w2 : va_AOA .int s0) (hd : decode cc pc = .ok (.anewarray i, 3)) (hrc : r.2.2.2.1 ≤ c0 + R.cells) (hrs : r.2.2.2.2 ≤ k0 + R.slots) (k : ∀ (H1 : Heap) (locs1 : List Loc) (cells1 slots1 : Nat), xDy s0 D cl xty sa nr s c0 k0 r.2 H1 locs1 cells1 slots1 → W p l e R s m args below meth c H1 locs1 cells1 slots1 Q (F0 m (pc + 3) ls (xL sa r.1))) : W p l e R s m args below meth c H locs cells slots Q (F0 m pc ls (xL sa st)) := by
  obtain ⟨hx, hb, hown, hmn, hts, hn, hW0, hKc, hTY, hSA, hRO, hsz, hbel⟩ := C0
  unfold xnewqI at he
  split at he
  · rename_i n r0 kk hk
    cases hcc : xin n 65536 with
    | false => simp only [hcc] at he; cases he
    | true =>
      simp only [hcc, cond_true] at he
      cases he
      obtain ⟨n0, n1⟩ := xin_ok hcc
      have hHs := Y.1.2.1 _ hk
      have hsa : sa (nr + kk) = H.size := by rw [hSA _ (by omega)]; omega
      have hcc : c0 + cells = h.2.2.1 := Y.2.2.2.1
      have hks : k0 + slots = h.2.2.2 := Y.2.2.2.2
      have hrc : h.2.2.1 + 1 ≤ c0 + R.cells := hrc
      have hrs : h.2.2.2 + n.toNatClampNeg ≤ k0 + R.slots := hrs
      refine W.anewA (t := .int) hx hb hown (hts _ w1) (va_AOA.use (xAOA_moved hW0.alike w2)) rfl hd rfl n0 (by omega) (by omega) (by omega) fun cA kA comp f1 f2 f3 f4 => ?_
      have z1 : (H.push { cls := cA, slots := Array.replicate n.toNatClampNeg .null, vm := .none }).size = H.size + 1 := by simp
      have kk2 := k (H.push { cls := cA, slots := Array.replicate n.toNatClampNeg .null, vm := .none }) locs (cells + 1) (slots + n.toNatClampNeg) ⟨Y.1.push hk ⟨cA, ?_, ?_, ?_⟩ z1 (fun q hq => by rw [Array.getElem?_push, if_neg (Nat.ne_of_lt hq)]), by rw [z1]; have := Y.2.1; omega, Y.2.2.1, by show c0 + (cells + 1) = h.2.2.1 + 1; omega, by show k0 + (slots + n.toNatClampNeg) = h.2.2.2 + n.toNatClampNeg; omega⟩
      · have kk3 : W p l e R s m args below meth c (H.push { cls := cA, slots := Array.replicate n.toNatClampNeg .null, vm := .none }) locs (cells + 1) (slots + n.toNatClampNeg) Q (F0 m (pc + 3) ls (.ref (sa (nr + kk)) :: xL sa r0)) := kk2
        rw [hsa] at kk3
        exact kk3
      · show (H.push _)[sa (nr + kk)]? = some (arrV cA n.toNatClampNeg (fun _ => va_rf ((none : Option Nat).map sa)))
        rw [hsa, arrV_new]
        simp [va_rf]
      · show ArrOfT s0 cA (xty 8)
        rw [hTY.2.2.2.2.2.2.2.2]
        exact arrOfT_moved hW0.alike.symm (fun n z => ⟨fun k h => (by cases h), kA, f2, comp, f3⟩)
      · show va_RA s0 cA (xty 8)
        rw [hTY.2.2.2.2.2.2.2.2]
        exact va_RA.moved (u := s) hW0.alike.symm f1
  · cases he
theorem xnewm_ok (C0 : xCx s0 D cl xty sa nr ro Gw Gn p s m args meth c cc own mname) (Y : xDy s0 D cl xty sa nr s c0 k0 h H locs cells slots) {i : Nat} {st : List Value} {r : List Value × XH} (he : xnewm nr h st = some r) (hok : Cond.classLink own i ("[" ++ (FieldType.array .long).toString) ∈ Gw ∧ Cond.arrayClass .long ∈ Gw ∧ va_AOA .long s0 ∧ True) (hd : decode cc pc = .ok (.multianewarray i 2, 4)) (hrc : r.2.2.2.1 ≤ c0 + R.cells) (hrs : r.2.2.2.2 ≤ k0 + R.slots) (k : ∀ (H1 : Heap) (locs1 : List Loc) (cells1 slots1 : Nat), xDy s0 D cl xty sa nr s c0 k0 r.2 H1 locs1 cells1 slots1 → W p l e R s m args below meth c H1 locs1 cells1 slots1 Q (F0 m (pc + 4) ls (xL sa r.1))) : W p l e R s m args below meth c H locs cells slots Q (F0 m pc ls (xL sa st)) := by
  obtain ⟨hx, hb, hown, hmn, hts, hn, hW0, hKc, hTY, hSA, hRO, hsz, hbel⟩ := C0
  obtain ⟨w1, w2, w3, -⟩ := hok
  unfold xnewm at he
  split at he
  · rename_i n2 n r0 kk hk
    cases hcc : (xin n 65536 && xin n2 65536) with
    | false => simp only [hcc] at he; cases he
    | true =>
      simp only [hcc, cond_true] at he
      cases he
      obtain ⟨b1, b2⟩ := Bool.and_eq_true_iff.mp hcc
      obtain ⟨n0, n1⟩ := xin_ok b1
      obtain ⟨m0, m1⟩ := xin_ok b2
      have hHs := Y.1.2.1 _ hk
      have hcc : c0 + cells = h.2.2.1 := Y.2.2.2.1
      have hks : k0 + slots = h.2.2.2 := Y.2.2.2.2
      have hrc : h.2.2.1 + (1 + n.toNatClampNeg) ≤ c0 + R.cells := hrc
      have hrs : h.2.2.2 + (n.toNatClampNeg + n.toNatClampNeg * n2.toNatClampNeg) ≤ k0 + R.slots := hrs
      intro T hT Xs
      obtain ⟨vm₁, cA, comp, -, fA, fC, hO, hI, X', step⟩ := Xs.multianewarray2F hx hown (hts _ w1) (va_AOA.use (xAOA_moved hW0.alike w3)) (hts _ w2) (g := F0 m pc ls (.int n2 :: .int n :: xL sa r0)) rfl (by rw [hb]; exact hd) rfl n0 m0 (by omega) (show n2.toNatClampNeg * 8 ≤ 536870912 by omega) (by omega) rfl rfl (by omega) (by omega)
      generalize hF : Jvm.Free.Multi.fill (T.setVm vm₁) cA comp n.toNatClampNeg n2.toNatClampNeg (defaultValue .long) n.toNatClampNeg = F at X' step
      have hTh : (T.setVm vm₁).heap = H := hT
      obtain ⟨f1, f2, -, -⟩ := Jvm.Free.Multi.fill_facts (T.setVm vm₁) cA comp n.toNatClampNeg n2.toNatClampNeg (defaultValue .long) n.toNatClampNeg
      rw [hF, hTh] at f1 f2
      have hold : ∀ x : Nat, x < H.size → F.heap[x]? = H[x]? := fun x hx => by
        have := Jvm.Free.Multi.fill_old (T.setVm vm₁) cA comp n.toNatClampNeg n2.toNatClampNeg (defaultValue .long) (a := x) (by rw [hTh]; exact hx) n.toNatClampNeg
        rw [hF, hTh] at this
        exact this
      have hz : Jvm.Free.Multi.innerC comp n2.toNatClampNeg (defaultValue .long) = vp_cell comp (n2.toNatClampNeg, .inr (.inl (fun _ => 0))) := by
        show ({ cls := comp, slots := Array.replicate n2.toNatClampNeg (.long 0), vm := .none } : Cell) = _
        rw [arrV_new]
        rfl
      have hrow : ∀ j : Nat, j < n.toNatClampNeg → F.heap[H.size + 1 + j]? = some (vp_cell comp (n2.toNatClampNeg, .inr (.inl (fun _ => 0)))) := fun j hj => by
        have := Jvm.Free.Multi.fill_inner (T.setVm vm₁) cA comp n.toNatClampNeg n2.toNatClampNeg (defaultValue .long) n.toNatClampNeg j hj
        rw [hF, hTh, hz] at this
        exact this
      rw [vr_outer] at f2
      have hsa : sa (nr + kk) = H.size := by rw [hSA _ (by omega)]; omega
      have hAo : ArrOfT s cA (.array .long) := fun N9 z9 => by
        obtain ⟨-, k9, hk9, cm9, hkk9⟩ := (hO 0 0 0).1
        exact ⟨(fun q hq => by cases hq), k9, hk9, cm9, hkk9⟩
      have hAi : ArrOfT s comp .long := fun N9 z9 => by
        obtain ⟨-, k9, hk9, cm9, hkk9⟩ := (hI 0 (.long 0)).1
        exact ⟨(fun q hq => by cases hq), k9, hk9, cm9, hkk9⟩
      have hb0 := Y.1.2.2.2
      have hY2 := Y.2.1
      have hRep : xRep s0 D cl xty sa nr ((fun b => if nr + kk < b ∧ b ≤ nr + kk + n.toNatClampNeg then some (.inl (1, (n2.toNatClampNeg, .inr (.inl (fun _ => 0))))) else if b = nr + kk then some (.inl (9, (n.toNatClampNeg, .inr (.inr (.inr (.inr (fun i => if i < n.toNatClampNeg then some (nr + kk + 1 + i) else none))))))) else h.1 b), (some (kk + 1 + n.toNatClampNeg), (h.2.2.1 + (1 + n.toNatClampNeg), h.2.2.2 + (n.toNatClampNeg + n.toNatClampNeg * n2.toNatClampNeg)))) F.heap := by
        refine ⟨fun b y hb => ?_, fun z hz => ?_, fun q hq => ?_, ?_⟩
        · have hb : (if nr + kk < b ∧ b ≤ nr + kk + n.toNatClampNeg then some (.inl (1, (n2.toNatClampNeg, .inr (.inl (fun _ => 0))))) else if b = nr + kk then some (.inl (9, (n.toNatClampNeg, .inr (.inr (.inr (.inr (fun i => if i < n.toNatClampNeg then some (nr + kk + 1 + i) else none))))))) else h.1 b) = some y := hb
          by_cases c1 : nr + kk < b ∧ b ≤ nr + kk + n.toNatClampNeg
          · rw [if_pos c1] at hb
            cases hb
            refine ⟨by omega, comp, ?_, ?_, ?_⟩
            · show F.heap[sa b]? = some (vp_cell comp (n2.toNatClampNeg, .inr (.inl (fun _ => 0))))
              have hsb : sa b = H.size + 1 + (b - (nr + kk + 1)) := by rw [hSA _ (by omega)]; omega
              rw [hsb]
              exact hrow _ (by omega)
            · show ArrOfT s0 comp (xty 1)
              rw [hTY.2.1]
              exact arrOfT_moved hW0.alike.symm hAi
            · show va_RA s0 comp (xty 1)
              rw [hTY.2.1]
              exact va_RA.moved (u := s) hW0.alike.symm fC
          · rw [if_neg c1] at hb
            by_cases c2 : b = nr + kk
            · rw [if_pos c2] at hb
              cases hb
              subst c2
              refine ⟨by omega, cA, ?_, ?_, ?_⟩
              · rw [hsa, f2]
                show some (arrV cA n.toNatClampNeg _) = some (arrV cA n.toNatClampNeg (fun j => va_rf ((if j < n.toNatClampNeg then some (nr + kk + 1 + j) else none).map sa)))
                congr 2
                funext j
                by_cases hj : j < n.toNatClampNeg
                · rw [if_pos hj, if_pos hj]
                  show va_rf (some (H.size + 1 + j)) = va_rf (some (sa (nr + kk + 1 + j)))
                  rw [hSA _ (by omega)]
                  congr 2
                  omega
                · rw [if_neg hj, if_neg hj]
                  rfl
              · show ArrOfT s0 cA (xty 9)
                rw [hTY.2.2.2.2.2.1]
                exact arrOfT_moved hW0.alike.symm hAo
              · show va_RA s0 cA (xty 9)
                rw [hTY.2.2.2.2.2.1]
                exact va_RA.moved (u := s) hW0.alike.symm fA
            · rw [if_neg c2] at hb
              obtain ⟨h1, h2⟩ := Y.1.1 b y hb
              exact ⟨h1, h2.kept (hold _ h2.lt)⟩
        · have hz : some (kk + 1 + n.toNatClampNeg) = some z := hz
          cases hz
          omega
        · rw [hold q (by omega)]
          exact Y.1.2.2.1 q hq
        · omega
      obtain ⟨t, a1, b1⟩ := k F.heap locs (cells + 1 + n.toNatClampNeg) (slots + n.toNatClampNeg + n.toNatClampNeg * n2.toNatClampNeg) ⟨hRep, by rw [f1]; omega, Y.2.2.1, by show c0 + (cells + 1 + n.toNatClampNeg) = h.2.2.1 + (1 + n.toNatClampNeg); omega, by show k0 + (slots + n.toNatClampNeg + n.toNatClampNeg * n2.toNatClampNeg) = h.2.2.2 + (n.toNatClampNeg + n.toNatClampNeg * n2.toNatClampNeg); omega⟩ F rfl X'
      refine ⟨t, step t ?_, b1⟩
      have eT : T.heap.size = H.size := by rw [hT]
      rw [eT]
      have a1 : Steps p.tables e below (F.setTop (F0 m (pc + 4) ls (.ref (sa (nr + kk)) :: xL sa r0))) t := a1
      rw [hsa] at a1
      exact a1
  · cases he
theorem xgst_ok (C0 : xCx s0 D cl xty sa nr ro Gw Gn p s m args meth c cc own mname) (Y : xDy s0 D cl xty sa nr s c0 k0 h H locs cells slots) {i : Nat} {v : Value} {st : List Value} (hok : xokS s0 Gw Gn sa own i v) (hd : decode cc pc = .ok (.getstatic i, 3)) (k : W p l e R s m args below meth c H locs cells slots Q (F0 m (pc + 3) ls (xL sa (v :: st)))) : W p l e R s m args below meth c H locs cells slots Q (F0 m pc ls (xL sa st)) := by
  obtain ⟨hx, hb, hown, hmn, hts, hn, hW0, hKc, hTY, hSA, hRO, hsz, hbel⟩ := C0
  obtain ⟨C, n, d, hZ, hl⟩ := hok
  have hZ2 : va_Z C n d (xs sa v) (fun q => s0.heap.size ≤ q) s s.heap := va_Z.moved hW0.alike (va_Z.kept hZ (fun q _ h2 => hbel q (Nat.not_le.mp h2)))
  rcases hl with hl | ⟨host, hl⟩
  · exact va_gets hx hb hZ2 (Y.S hbel) hown (hts _ hl) (fun x hx => hx) hd k
  · exact va_getsN hx hb hZ2 (Y.S hbel) hown (va_Nw.use rfl (va_Nw.warmF hW0 (hn _ hl))) (fun x hx => hx) hd k
theorem xheap_ok (C0 : xCx s0 D cl xty sa nr ro Gw Gn p s m args meth c cc own mname) (Y : xDy s0 D cl xty sa nr s c0 k0 h H locs cells slots) {i : XI} {st : List Value} {r : List Value × XH} (he : xheap ro nr i st h = some r) (hok : xokH s0 cl Gw Gn sa own mname i) (hd : decode cc pc = .ok (i.1, xle i)) (hrc : r.2.2.2.1 ≤ c0 + R.cells) (hrs : r.2.2.2.2 ≤ k0 + R.slots) (k : ∀ (H1 : Heap) (locs1 : List Loc) (cells1 slots1 : Nat), xDy s0 D cl xty sa nr s c0 k0 r.2 H1 locs1 cells1 slots1 → W p l e R s m args below meth c H1 locs1 cells1 slots1 Q (F0 m (pc + xle i) ls (xL sa r.1))) : W p l e R s m args below meth c H locs cells slots Q (F0 m pc ls (xL sa st)) := by
  have gh : ∀ {q : Option (List Value)}, xgh h q = some r → ∃ st', q = some st' ∧ r = (st', h) := fun {q} z => by
    cases q with
    | none => cases z
    | some st' => exact ⟨st', rfl, (Option.some.inj z).symm⟩
  obtain ⟨i, ⟨a, a2⟩, vs, ts⟩ := i
  cases i
  case getfield j =>
    have he : (bif Nat.beq (ts.headD 9) 4 then none else xgh h (xget1 a a2 h st)) = some r := he
    cases hq : Nat.beq (ts.headD 9) 4 with
    | true => rw [hq] at he; cases he
    | false =>
      rw [hq] at he
      have hne : ts.headD 9 ≠ 4 := fun z => by rw [z] at hq; cases hq
      obtain ⟨q, h1, rfl⟩ := gh he
      exact xget_ok C0 Y h1 (hok hne) hd (k H locs cells slots Y)
  case putfield j => exact xput_ok C0 Y he hok hd k
  case getstatic j =>
    obtain ⟨q, h1, rfl⟩ := gh he
    obtain ⟨b, rfl, rfl⟩ := xgs_of h1
    exact xgst_ok C0 Y (hok _ rfl) hd (k H locs cells slots Y)
  case iaload =>
    obtain ⟨q, h1, rfl⟩ := gh he
    exact xiald_ok C0 Y h1 hd (k H locs cells slots Y)
  case laload =>
    obtain ⟨q, h1, rfl⟩ := gh he
    exact xlald_ok C0 Y h1 hd (k H locs cells slots Y)
  case daload =>
    obtain ⟨q, h1, rfl⟩ := gh he
    exact xdald_ok C0 Y h1 hd (k H locs cells slots Y)
  case baload =>
    obtain ⟨q, h1, rfl⟩ := gh he
    exact xbald_ok C0 Y h1 hd (k H locs cells slots Y)
  case caload =>
    obtain ⟨q, h1, rfl⟩ := gh he
    exact xcald_ok C0 Y h1 hd (k H locs cells slots Y)
  case aaload =>
    obtain ⟨q, h1, rfl⟩ := gh he
    exact xaald_ok C0 Y h1 hd (k H locs cells slots Y)
  case iastore => exact xiast_ok C0 Y he hd k
  case lastore => exact xlast_ok C0 Y he hd k
  case dastore => exact xdast_ok C0 Y he hd k
  case castore => exact xcast_ok C0 Y he hd k
  case bastore => exact xbast_ok C0 Y he hd k
  case aastore =>
    have he : xast h (bif Nat.beq (ts.headD 9) 6 then 6 else 4) st = some r := he
    have hok : Nat.beq (ts.headD 9) 6 = true → va_AOA .int s0 := hok
    cases hq : Nat.beq (ts.headD 9) 6 with
    | false => rw [hq] at he; exact xaast_ok C0 Y he hd k
    | true => rw [hq] at he; exact xaast6_ok C0 Y he (hok hq) hd k
  case ldc j =>
    obtain ⟨q, h1, rfl⟩ := gh he
    obtain ⟨b, rfl, rfl⟩ := xgr_of h1
    obtain ⟨hx, hb, hown, hmn, hts, hn, hW0, hKc, hTY, hSA, hRO, hsz, hbel⟩ := C0
    obtain ⟨tx, hR⟩ := hok _ rfl
    exact va_ldcS hx hb hown (vk_R.warm hW0 hR) hd (k H locs cells slots Y)
  case arraylength =>
    obtain ⟨q, h1, rfl⟩ := gh he
    exact xln_ok C0 Y h1 hd (k H locs cells slots Y)
  case new j => exact xnew_ok C0 Y he hok hd hrc hrs k
  case newarray t => exact xnewa_ok C0 Y he hok hd hrc hrs k
  case anewarray j =>
    have he : (bif Nat.beq (ts.headD 9) 6 then xnewqI nr h st else xnewq nr a h st) = some r := he
    rcases hok with ⟨hq, w1, w2⟩ | ⟨hq, hok⟩
    · have hq : Nat.beq (ts.headD 9) 6 = true := hq
      rw [hq] at he
      exact xnewqI_ok C0 Y he w1 w2 hd hrc hrs k
    · have hq : Nat.beq (ts.headD 9) 6 = false := hq
      rw [hq] at he
      exact xnewq_ok C0 Y he hok hd hrc hrs k
  case multianewarray j d =>
    have he : (bif Nat.beq d 2 then xnewm nr h st else none) = some r := he
    cases hq : Nat.beq d 2 with
    | false => rw [hq] at he; cases he
    | true =>
      rw [hq] at he
      have hd2 : d = 2 := Nat.eq_of_beq_eq_true hq
      subst hd2
      exact xnewm_ok C0 Y he hok hd hrc hrs k
  all_goals exact absurd he (by intro q; cases q)
end XS4
