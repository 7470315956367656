/-! what is told apart: six things, by their own contracts -/
def xFs : Nat → Prop := fun _ => False
theorem xgw {ws : List Cond} (h : ws.all (fun w => decide (w ∈ lw_tbl) && goodWord w) = true) : GoodIn Gw ws := fun w hw => by
  have h1 := List.all_eq_true.mp h w hw
  obtain ⟨h2, h3⟩ := Bool.and_eq_true_iff.mp h1
  exact ⟨xg (of_decide_eq_true h2) h3, good_of_word h3⟩
def wOrd : List Cond := .code yJx29ce0_ordinal_8abf5 cJx29ce0_ordinal_8abf5 1 (some .int) :: [.fieldLink "java/lang/Enum" 7 "java/lang/Enum" "ordinal" "I"]
theorem cx_ord (l : Launch) (q : Nat) (x : Int32) (Hh : Heap) : Met l yJx29ce0_ordinal_8abf5 wOrd ({ frames := 0, cells := 0, slots := 0, locals := 0 } : Room) (va_Pc [.ref q] (fun U => U.heap = Hh ∧ va_OF "java/lang/Enum" "ordinal" "I" (.int x) q xFs U Hh)) (va_Qi (fun r (_ : Unit) => r = x) (fun _ t => t.heap = Hh) xFs) 0 0 xFs := by
  refine Met.ofW (cc := cJx29ce0_ordinal_8abf5) (maxL := 1) (ret := (some .int)) (by decide) rfl ?_
  intro p e s m args below meth c s₁ B hml hv
  obtain ⟨rfl, hh, hE⟩ := hv
  subst hh
  have hlocks := B.notSynchronized
  have hts := atoms_spec (ws := wOrd) B.pre
  have hown : s.vm.findClass "java/lang/Enum" = some m.cls := findClass_of_methodNamed B.named
  have hS : va_S xFs s.heap s.heap [] := va_S.rf
  have hl := lv_entry ([.ref q]) (n := 1) (Nat.le_of_ble_eq_true rfl)
  rw [lg_entry_eq]
  generalize (lg_sl ([.ref q]) ++ List.replicate (1 - (lg_sl ([.ref q])).length) Slot.unset).toArray = ls at hl ⊢
  have hl : lv_has ls 1 [(0, .ref q)] := hl
  refine lv_aload_n B.exec B.bytes (by decide +kernel : decode cJx29ce0_ordinal_8abf5 0 = .ok (.aload_n 0, 1)) rfl (lv_at hl 0 rfl) ?_
  refine vk_getf B.exec B.bytes hE hS hown (hts (.fieldLink "java/lang/Enum" 7 "java/lang/Enum" "ordinal" "I") (by decide +kernel)) (fun x h => h) (by decide +kernel : decode cJx29ce0_ordinal_8abf5 1 = .ok (.getfield 7, 3)) ?_
  exact W.iret (v := x) B.exec B.bytes B.returns (fun t ht hW => ⟨⟨x, (), rfl, rfl, ht⟩, hS.F ht⟩) hS.2.2 (by decide +kernel : decode cJx29ce0_ordinal_8abf5 4 = .ok (.ireturn, 1))
def wPck : List Cond := .code yJ3_checkIndex_8e157 cJ3_checkIndex_8e157 3 (some .int) :: []
theorem cx_pck (l : Launch) (i n : Int32) (v : Value) (h0 : ¬ i < 0) (h1 : i < n) (Hh : Heap) (hv1 : v = .null ∨ ∃ t, v = .ref t) : Met l yJ3_checkIndex_8e157 wPck ({ frames := 0, cells := 0, slots := 0, locals := 0 } : Room) (va_Pc [.int i, .int n, v] (fun U => U.heap = Hh)) (va_Qi (fun r (_ : Unit) => r = i) (fun _ t => t.heap = Hh) xFs) 0 0 xFs := by
  refine Met.ofW (cc := cJ3_checkIndex_8e157) (maxL := 3) (ret := (some .int)) (by decide) rfl ?_
  intro p e s m args below meth c s₁ B hml hv
  obtain ⟨rfl, hh⟩ := hv
  subst hh
  have hlocks := B.notSynchronized
  have hS : va_S xFs s.heap s.heap [] := va_S.rf
  have hcat : v.category = 1 := by rcases hv1 with rfl | ⟨t, rfl⟩ <;> rfl
  have hlen : (lg_sl [.int i, .int n, v]).length ≤ 3 := by rcases hv1 with rfl | ⟨t, rfl⟩ <;> exact Nat.le_of_ble_eq_true rfl
  have hl := lv_entry ([.int i, .int n, v]) (n := 3) hlen
  rw [lg_entry_eq]
  generalize (lg_sl ([.int i, .int n, v]) ++ List.replicate (3 - (lg_sl ([.int i, .int n, v])).length) Slot.unset).toArray = ls at hl ⊢
  have hl : lv_has ls 3 [(0, .int i), (1, .int n), (2, v)] := hl
  refine lv_iload_n B.exec B.bytes (by decide +kernel : decode cJ3_checkIndex_8e157 0 = .ok (.iload_n 0, 1)) rfl (lv_at hl 0 rfl) ?_
  refine lv_if_lt (tgt := 9) B.exec B.bytes (by decide +kernel : decode cJ3_checkIndex_8e157 1 = .ok (.ifCond .lt 8, 3)) rfl (fun h => absurd h h0) (fun _ => ?_)
  refine lv_iload_n B.exec B.bytes (by decide +kernel : decode cJ3_checkIndex_8e157 4 = .ok (.iload_n 0, 1)) rfl (lv_at hl 0 rfl) ?_
  refine lv_iload_n B.exec B.bytes (by decide +kernel : decode cJ3_checkIndex_8e157 5 = .ok (.iload_n 1, 1)) rfl (lv_at hl 1 rfl) ?_
  refine lv_icmp_lt (tgt := 16) B.exec B.bytes (by decide +kernel : decode cJ3_checkIndex_8e157 6 = .ok (.if_icmp .lt 10, 3)) rfl (fun _ => ?_) (fun h => absurd h1 h)
  refine lv_iload_n B.exec B.bytes (by decide +kernel : decode cJ3_checkIndex_8e157 16 = .ok (.iload_n 0, 1)) rfl (lv_at hl 0 rfl) ?_
  exact W.iret (v := i) B.exec B.bytes B.returns (fun t ht hW => ⟨⟨i, (), rfl, rfl, ht⟩, hS.F ht⟩) hS.2.2 (by decide +kernel : decode cJ3_checkIndex_8e157 17 = .ok (.ireturn, 1))
def wCki : List Cond := .code yJ0_checkIndex_df160 cJ0_checkIndex_df160 2 none :: [.fieldLink "java/lang/String" 1053 "jdk/internal/util/Preconditions" "SIOOBE_FORMATTER" "Ljava/util/function/BiFunction;", .methodLink "java/lang/String" 1059 yJ3_checkIndex_8e157, .static yJ3_checkIndex_8e157, .initialized yJ3_checkIndex_8e157.cls, .code yJ3_checkIndex_8e157 cJ3_checkIndex_8e157 3 (some .int)]
def xzq (z : Nat) (U : State) (H : Heap) : Prop := va_Zq "jdk/internal/util/Preconditions" "SIOOBE_FORMATTER" "Ljava/util/function/BiFunction;" (fun q => z ≤ q) U H
theorem cx_cki (l : Launch) (i n : Int32) (h0 : ¬ i < 0) (h1 : i < n) (Hh : Heap) (z : Nat) : Met l yJ0_checkIndex_df160 wCki ({ frames := 1, cells := 0, slots := 0, locals := 40 } : Room) (va_Pc [.int i, .int n] (fun U => U.heap = Hh ∧ xzq z U Hh)) (va_Qv (fun (_ : Unit) => True) (fun _ t => t.heap = Hh) xFs) 0 0 xFs := by
  refine Met.ofW (cc := cJ0_checkIndex_df160) (maxL := 2) (ret := none) (by decide) rfl ?_
  intro p e s m args below meth c s₁ B hml hv
  obtain ⟨rfl, hh, hE⟩ := hv
  subst hh
  have hlocks := B.notSynchronized
  have hts := atoms_spec (ws := wCki) B.pre
  have hown : s.vm.findClass "java/lang/String" = some m.cls := findClass_of_methodNamed B.named
  have hS : va_S (fun q => z ≤ q) s.heap s.heap [] := va_S.rf
  have hl := lv_entry ([.int i, .int n]) (n := 2) (Nat.le_of_ble_eq_true rfl)
  rw [lg_entry_eq]
  generalize (lg_sl ([.int i, .int n]) ++ List.replicate (2 - (lg_sl ([.int i, .int n])).length) Slot.unset).toArray = ls at hl ⊢
  have hl : lv_has ls 2 [(0, .int i), (1, .int n)] := hl
  refine lv_iload_n B.exec B.bytes (by decide +kernel : decode cJ0_checkIndex_df160 0 = .ok (.iload_n 0, 1)) rfl (lv_at hl 0 rfl) ?_
  refine lv_iload_n B.exec B.bytes (by decide +kernel : decode cJ0_checkIndex_df160 1 = .ok (.iload_n 1, 1)) rfl (lv_at hl 1 rfl) ?_
  have key : ∀ v : Value, (v = .null ∨ ∃ t, v = .ref t) → W p l e ({ frames := 1, cells := 0, slots := 0, locals := 40 } : Room) s m ([.int i, .int n] : List Value).toArray below meth c s.heap [] 0 0 (MQ below (va_Qv (fun (_ : Unit) => True) (fun _ t => t.heap = s.heap) xFs) ([.int i, .int n] : List Value).toArray s 0 0 xFs) (F0 m 5 ls [v, .int n, .int i]) := by
    intro v hv1
    have hcat : v.category = 1 := by rcases hv1 with rfl | ⟨t, rfl⟩ <;> rfl
    have hS0 : va_S xFs s.heap s.heap [] := va_S.rf
    refine va_calli (va_runS (As := [.int i, .int n, v]) (rest := []) (nL := 2) ⟨B.exec, B.bytes, hml, hown, hts⟩ (cx_pck l i n v h0 h1 s.heap hv1) ⟨callB_of 3 hts (goodIn_sub (by decide +kernel) (by decide +kernel)) rfl rfl rfl (hts (.initialized yJ3_checkIndex_8e157.cls) (by decide +kernel)) (hts (.methodLink "java/lang/String" 1059 yJ3_checkIndex_8e157) (by decide +kernel)) ⟨by decide +kernel, by decide +kernel, by decide +kernel⟩ ⟨Nat.le_of_ble_eq_true rfl, Nat.le_of_ble_eq_true rfl⟩, hts (.static yJ3_checkIndex_8e157) (by decide +kernel)⟩ ⟨fun a U g mk q => q, fun U hU hW => ⟨rfl, hU⟩⟩ rfl rfl hl.1 rfl (lv_room (Nat.le_of_ble_eq_true rfl)) (by decide +kernel : decode cJ0_checkIndex_df160 5 = .ok (.invokestatic 1059, 3)) ⟨Nat.le_refl _, Nat.le_refl _⟩) hS0 (fun q _ h => h) (fun q h => h) (fun r u t H1 locs1 ht hvm hr hB hz hk hS1 => ?_)
    have eH : H1 = s.heap := by rw [← ht]; exact hB
    subst eH
    refine lv_pop B.exec B.bytes (by decide +kernel : decode cJ0_checkIndex_df160 8 = .ok (.pop, 1)) rfl ?_
    exact W.vret B.exec B.bytes B.returns (fun t ht hW => ⟨⟨(), rfl, trivial, ht⟩, hS1.F ht⟩) hS1.2.2 (by decide +kernel : decode cJ0_checkIndex_df160 9 = .ok (.return_, 1))
  rcases hE with hE | ⟨t, hE⟩
  · exact va_gets B.exec B.bytes hE hS hown (hts (.fieldLink "java/lang/String" 1053 "jdk/internal/util/Preconditions" "SIOOBE_FORMATTER" "Ljava/util/function/BiFunction;") (by decide +kernel)) (fun x hx => hx) (by decide +kernel : decode cJ0_checkIndex_df160 2 = .ok (.getstatic 1053, 3)) (key .null (Or.inl rfl))
  · exact va_gets B.exec B.bytes hE hS hown (hts (.fieldLink "java/lang/String" 1053 "jdk/internal/util/Preconditions" "SIOOBE_FORMATTER" "Ljava/util/function/BiFunction;") (by decide +kernel)) (fun x hx => hx) (by decide +kernel : decode cJ0_checkIndex_df160 2 = .ok (.getstatic 1053, 3)) (key (.ref t) (Or.inr ⟨t, rfl⟩))
/-- what they do -/
def xXcopy (as : List Value) (h : XH) : Option (Option Value × XH) := match as with
  | [.ref a, .int sp, .ref b, .int dp, .int n] => match h.1 a, h.1 b with
    | some (.inl (t, (n0, .inl f))), some (.inl (t2, (n1, .inl g))) => if (t = t2 ∧ (t = 0 ∨ t = 4)) ∧ (¬ sp < 0 ∧ ¬ dp < 0 ∧ ¬ n < 0) ∧ (sp.toNatClampNeg + n.toNatClampNeg ≤ n0 ∧ dp.toNatClampNeg + n.toNatClampNeg ≤ n1) ∧ (t = 4 → ∀ i, i < n.toNatClampNeg → fits .byte (.int (f (sp.toNatClampNeg + i))) = true) then some (none, (xup h.1 b (.inl (t2, (n1, .inl (va_cpy f g sp.toNatClampNeg dp.toNatClampNeg n.toNatClampNeg)))), h.2)) else none
    | _, _ => none
  | _ => none
def xXord (lo : Nat) (as : List Value) (h : XH) : Option (Option Value × XH) := match as with
  | [.ref a] => if lo ≤ a ∧ a < lo + 6 then some (some (.int (xcO a)), h) else none
  | _ => none
def xXcki (as : List Value) (h : XH) : Option (Option Value × XH) := match as with
  | [.int i, .int n] => if ¬ i < 0 ∧ i < n then some (none, h) else none
  | _ => none
def xXfld (lo : Nat) (g : Nat → Value) (as : List Value) (h : XH) : Option (Option Value × XH) := match as with
  | [.ref a] => if lo ≤ a ∧ a < lo + 6 then some (some (g a), h) else none
  | _ => none
def xXmath (k : Nat) (as : List Value) (h : XH) : Option (Option Value × XH) := match k, as with
  | 0, [.int x, .int y] => some (some (.int (if x < y then y else x)), h)
  | 1, [.int x, .int y] => some (some (.int (if y < x then y else x)), h)
  | 2, [.int x] => some (some (.int (if 0 ≤ x then x else 0 - x)), h)
  | _, _ => none
def xX : XX := fun i as h => match i with
  | 0 => xXcopy as h
  | 1 => xXord 0 as h
  | 2 => xXord 6 as h
  | 4 => xXcki as h
  | 10 => xXfld 6 (fun a => .ref (a + 10)) as h
  | 12 => xXfld 16 (fun a => .ref (a + 8)) as h
  | 13 => xXfld 16 (fun _ => .int 0) as h
  | 20 => xXmath 0 as h
  | 21 => xXmath 1 as h
  | 22 => xXmath 2 as h
  | _ => none
theorem xXcopy_of {as : List Value} {h : XH} {r : Option Value × XH} (e : xXcopy as h = some r) : ∃ a sp b dp n t n0 n1 f g, as = [.ref a, .int sp, .ref b, .int dp, .int n] ∧ h.1 a = some (.inl (t, (n0, .inl f))) ∧ h.1 b = some (.inl (t, (n1, .inl g))) ∧ (t = 0 ∨ t = 4) ∧ (¬ sp < 0 ∧ ¬ dp < 0 ∧ ¬ n < 0) ∧ (sp.toNatClampNeg + n.toNatClampNeg ≤ n0 ∧ dp.toNatClampNeg + n.toNatClampNeg ≤ n1) ∧ (t = 4 → ∀ i, i < n.toNatClampNeg → fits .byte (.int (f (sp.toNatClampNeg + i))) = true) ∧ r = (none, (xup h.1 b (.inl (t, (n1, .inl (va_cpy f g sp.toNatClampNeg dp.toNatClampNeg n.toNatClampNeg)))), h.2)) := by
  unfold xXcopy at e
  split at e
  · rename_i a sp b dp n
    split at e
    · rename_i t n0 f t2 n1 g ha hb
      split at e
      · rename_i hc
        obtain ⟨⟨rfl, h1⟩, h2, h3, h4⟩ := hc
        exact ⟨a, sp, b, dp, n, t, n0, n1, f, g, rfl, ha, hb, h1, h2, h3, h4, (Option.some.inj e).symm⟩
      · cases e
    · cases e
  · cases e
theorem xXord_of {lo : Nat} {as : List Value} {h : XH} {r : Option Value × XH} (e : xXord lo as h = some r) : ∃ a : Nat, as = [.ref a] ∧ lo ≤ a ∧ a < lo + 6 ∧ r = (some (.int (xcO a)), h) := by
  unfold xXord at e
  split at e
  · split at e
    · rename_i hc
      exact ⟨_, rfl, hc.1, hc.2, (Option.some.inj e).symm⟩
    · cases e
  · cases e
theorem xXfld_of {lo : Nat} {g : Nat → Value} {as : List Value} {h : XH} {r : Option Value × XH} (e : xXfld lo g as h = some r) : ∃ a : Nat, as = [.ref a] ∧ lo ≤ a ∧ a < lo + 6 ∧ r = (some (g a), h) := by
  unfold xXfld at e
  split at e
  · split at e
    · rename_i hc
      exact ⟨_, rfl, hc.1, hc.2, (Option.some.inj e).symm⟩
    · cases e
  · cases e
theorem xXcki_of {as : List Value} {h : XH} {r : Option Value × XH} (e : xXcki as h = some r) : ∃ i n, as = [.int i, .int n] ∧ ¬ i < 0 ∧ i < n ∧ r = (none, h) := by
  unfold xXcki at e
  split at e
  · split at e
    · rename_i hc
      exact ⟨_, _, rfl, hc.1, hc.2, (Option.some.inj e).symm⟩
    · cases e
  · cases e
theorem xXmath_of {k : Nat} {as : List Value} {h : XH} {r : Option Value × XH} (e : xXmath k as h = some r) : (∃ x y, k = 0 ∧ as = [.int x, .int y] ∧ r = (some (.int (if x < y then y else x)), h)) ∨ (∃ x y, k = 1 ∧ as = [.int x, .int y] ∧ r = (some (.int (if y < x then y else x)), h)) ∨ ∃ x, k = 2 ∧ as = [.int x] ∧ r = (some (.int (if 0 ≤ x then x else 0 - x)), h) := by
  unfold xXmath at e
  split at e
  · exact Or.inl ⟨_, _, rfl, rfl, (Option.some.inj e).symm⟩
  · exact Or.inr (Or.inl ⟨_, _, rfl, rfl, (Option.some.inj e).symm⟩)
  · exact Or.inr (Or.inr ⟨_, rfl, rfl, (Option.some.inj e).symm⟩)
  · cases e
theorem xXmath_up {k : Nat} {as : List Value} {h : XH} {r : Option Value × XH} (e : xXmath k as h = some r) : xup2 h r.2 := by
  rcases xXmath_of e with ⟨x, y, -, -, rfl⟩ | ⟨x, y, -, -, rfl⟩ | ⟨x, -, -, rfl⟩ <;> exact xup2.rf
theorem xX_up : ∀ i as h r, xX i as h = some r → xup2 h r.2 := by
  intro i as h r e
  unfold xX at e
  split at e
  · obtain ⟨a, sp, b, dp, n, t, n0, n1, f, g, -, -, -, -, -, -, -, rfl⟩ := xXcopy_of e
    exact xup2.rf
  · obtain ⟨a, -, -, -, rfl⟩ := xXord_of e
    exact xup2.rf
  · obtain ⟨a, -, -, -, rfl⟩ := xXord_of e
    exact xup2.rf
  · obtain ⟨i, n, -, -, -, rfl⟩ := xXcki_of e
    exact xup2.rf
  · obtain ⟨a, -, -, -, rfl⟩ := xXfld_of e
    exact xup2.rf
  · obtain ⟨a, -, -, -, rfl⟩ := xXfld_of e
    exact xup2.rf
  · obtain ⟨a, -, -, -, rfl⟩ := xXfld_of e
    exact xup2.rf
  · exact xXmath_up e
  · exact xXmath_up e
  · exact xXmath_up e
  · cases e
/-- the bytes of a String constant -/
def yCb (a : Nat) : Option (List Int32) := if 24 ≤ a ∧ a < 30 then some (xfB (a - 24)) else if 52 ≤ a ∧ a < 72 then some (xfB (a - 46)) else none
def yXcpc (as : List Value) (h : XH) : Option (Option Value × XH) := match as with
  | [.ref a, .int sp, .ref b, .int dp, .int n] => match yCb a, h.1 b with
    | some l, some (.inl (t2, (n1, .inl g))) => if t2 = 4 ∧ (¬ sp < 0 ∧ ¬ dp < 0 ∧ ¬ n < 0) ∧ (sp.toNatClampNeg + n.toNatClampNeg ≤ l.length ∧ dp.toNatClampNeg + n.toNatClampNeg ≤ n1) ∧ (∀ i, i < n.toNatClampNeg → fits .byte (.int (l.getD (sp.toNatClampNeg + i) 0)) = true) then some (none, (xup h.1 b (.inl (t2, (n1, .inl (va_cpy (fun k => l.getD k 0) g sp.toNatClampNeg dp.toNatClampNeg n.toNatClampNeg)))), h.2)) else none
    | _, _ => none
  | _ => none
def yXcopy (as : List Value) (h : XH) : Option (Option Value × XH) := match xXcopy as h with
  | some r => some r
  | none => yXcpc as h
/-- a field of an object in the heap -/
def yXhf (ci k : Nat) (as : List Value) (h : XH) : Option (Option Value × XH) := match as with
  | [.ref a] => match h.1 a with
    | some (.inr q) => bif Nat.beq q.1 ci then (match q.2[k]? with
      | some v => some (some v, h)
      | none => none) else none
    | _ => none
  | _ => none
def yXhI (ci k : Nat) (as : List Value) (h : XH) : Option (Option Value × XH) := match as with
  | [.ref a] => match h.1 a with
    | some (.inr q) => bif Nat.beq q.1 ci then (match q.2[k]? with
      | some (.int x) => some (some (.int x), h)
      | _ => none) else none
    | _ => none
  | _ => none
def yXval (as : List Value) (h : XH) : Option (Option Value × XH) := match as with
  | [.ref a] => if 16 ≤ a ∧ a < 22 then some (some (.ref (a + 8)), h) else if 32 ≤ a ∧ a < 52 then some (some (.ref (a + 20)), h) else yXhf 11 0 as h
  | _ => none
def yXcod (as : List Value) (h : XH) : Option (Option Value × XH) := match as with
  | [.ref a] => if 16 ≤ a ∧ a < 22 then some (some (.int 0), h) else if 32 ≤ a ∧ a < 52 then some (some (.int 0), h) else yXhf 11 1 as h
  | _ => none
/-- what is told apart where the law runs -/
def yX : XX := fun i as h => match i with
  | 0 => yXcopy as h
  | 1 => xXord 0 as h
  | 2 => xXord 6 as h
  | 4 => xXcki as h
  | 10 => xXfld 6 (fun a => .ref (a + 10)) as h
  | 12 => yXval as h
  | 13 => yXcod as h
  | 14 => yXhI 10 3 as h
  | 20 => xXmath 0 as h
  | 21 => xXmath 1 as h
  | 22 => xXmath 2 as h
  | _ => none
theorem yXcpc_of {as : List Value} {h : XH} {r : Option Value × XH} (e : yXcpc as h = some r) : ∃ a sp b dp n n1 l g, as = [.ref a, .int sp, .ref b, .int dp, .int n] ∧ yCb a = some l ∧ h.1 b = some (.inl (4, (n1, .inl g))) ∧ (¬ sp < 0 ∧ ¬ dp < 0 ∧ ¬ n < 0) ∧ (sp.toNatClampNeg + n.toNatClampNeg ≤ l.length ∧ dp.toNatClampNeg + n.toNatClampNeg ≤ n1) ∧ (∀ i, i < n.toNatClampNeg → fits .byte (.int (l.getD (sp.toNatClampNeg + i) 0)) = true) ∧ r = (none, (xup h.1 b (.inl (4, (n1, .inl (va_cpy (fun k => l.getD k 0) g sp.toNatClampNeg dp.toNatClampNeg n.toNatClampNeg)))), h.2)) := by
  unfold yXcpc at e
  split at e
  · rename_i a sp b dp n
    split at e
    · rename_i l t2 n1 g ha hb
      split at e
      · rename_i hc
        obtain ⟨rfl, h1, h2, h3⟩ := hc
        exact ⟨a, sp, b, dp, n, n1, l, g, rfl, ha, hb, h1, h2, h3, (Option.some.inj e).symm⟩
      · cases e
    · cases e
  · cases e
theorem yXcopy_of {as : List Value} {h : XH} {r : Option Value × XH} (e : yXcopy as h = some r) : xXcopy as h = some r ∨ yXcpc as h = some r := by
  unfold yXcopy at e
  split at e
  · rename_i q hq
    rw [hq]
    exact Or.inl e
  · exact Or.inr e
theorem yXhf_of {ci k : Nat} {as : List Value} {h : XH} {r : Option Value × XH} (e : yXhf ci k as h = some r) : ∃ a fs v, as = [.ref a] ∧ h.1 a = some (.inr (ci, fs)) ∧ fs[k]? = some v ∧ r = (some v, h) := by
  unfold yXhf at e
  split at e
  · rename_i a
    split at e
    · rename_i q hq
      obtain ⟨b1, b2⟩ := xbif e
      have e1 := Nat.eq_of_beq_eq_true b1
      obtain ⟨c, fs⟩ := q
      have e1 : c = ci := e1
      subst e1
      split at b2
      · rename_i v hv
        exact ⟨a, fs, v, rfl, hq, hv, (Option.some.inj b2).symm⟩
      · cases b2
    · cases e
  · cases e
theorem yXhI_of {ci k : Nat} {as : List Value} {h : XH} {r : Option Value × XH} (e : yXhI ci k as h = some r) : ∃ a fs x, as = [.ref a] ∧ h.1 a = some (.inr (ci, fs)) ∧ fs[k]? = some (.int x) ∧ r = (some (.int x), h) := by
  unfold yXhI at e
  split at e
  · rename_i a
    split at e
    · rename_i q hq
      obtain ⟨b1, b2⟩ := xbif e
      have e1 := Nat.eq_of_beq_eq_true b1
      obtain ⟨c, fs⟩ := q
      have e1 : c = ci := e1
      subst e1
      split at b2
      · rename_i v hv
        exact ⟨a, fs, v, rfl, hq, hv, (Option.some.inj b2).symm⟩
      · cases b2
    · cases e
  · cases e
theorem yXval_of {as : List Value} {h : XH} {r : Option Value × XH} (e : yXval as h = some r) : (∃ j, j < 26 ∧ as = [.ref (xsN j)] ∧ r = (some (.ref (xsB j)), h)) ∨ yXhf 11 0 as h = some r := by
  have key : ∀ a : Nat, (if 16 ≤ a ∧ a < 22 then some (some (Value.ref (a + 8)), h) else if 32 ≤ a ∧ a < 52 then some (some (Value.ref (a + 20)), h) else yXhf 11 0 [.ref a] h) = some r → (∃ j, j < 26 ∧ [Value.ref a] = [.ref (xsN j)] ∧ r = (some (.ref (xsB j)), h)) ∨ yXhf 11 0 [.ref a] h = some r := by
    intro a e
    by_cases h1 : 16 ≤ a ∧ a < 22
    · rw [if_pos h1] at e
      refine Or.inl ⟨a - 16, by omega, ?_, ?_⟩
      · unfold xsN; rw [if_pos (by omega), show 16 + (a - 16) = a by omega]
      · unfold xsB; rw [if_pos (by omega), show 24 + (a - 16) = a + 8 by omega]; exact (Option.some.inj e).symm
    · rw [if_neg h1] at e
      by_cases h2 : 32 ≤ a ∧ a < 52
      · rw [if_pos h2] at e
        refine Or.inl ⟨a - 26, by omega, ?_, ?_⟩
        · unfold xsN; rw [if_neg (by omega), show 26 + (a - 26) = a by omega]
        · unfold xsB; rw [if_neg (by omega), show 46 + (a - 26) = a + 20 by omega]; exact (Option.some.inj e).symm
      · rw [if_neg h2] at e
        exact Or.inr e
  unfold yXval at e
  split at e
  · exact key _ e
  · cases e
theorem yXcod_of {as : List Value} {h : XH} {r : Option Value × XH} (e : yXcod as h = some r) : (∃ j, j < 26 ∧ as = [.ref (xsN j)] ∧ r = (some (.int 0), h)) ∨ yXhf 11 1 as h = some r := by
  have key : ∀ a : Nat, (if 16 ≤ a ∧ a < 22 then some (some (Value.int 0), h) else if 32 ≤ a ∧ a < 52 then some (some (Value.int 0), h) else yXhf 11 1 [.ref a] h) = some r → (∃ j, j < 26 ∧ [Value.ref a] = [.ref (xsN j)] ∧ r = (some (.int 0), h)) ∨ yXhf 11 1 [.ref a] h = some r := by
    intro a e
    by_cases h1 : 16 ≤ a ∧ a < 22
    · rw [if_pos h1] at e
      refine Or.inl ⟨a - 16, by omega, ?_, (Option.some.inj e).symm⟩
      unfold xsN; rw [if_pos (by omega), show 16 + (a - 16) = a by omega]
    · rw [if_neg h1] at e
      by_cases h2 : 32 ≤ a ∧ a < 52
      · rw [if_pos h2] at e
        refine Or.inl ⟨a - 26, by omega, ?_, (Option.some.inj e).symm⟩
        unfold xsN; rw [if_neg (by omega), show 26 + (a - 26) = a by omega]
      · rw [if_neg h2] at e
        exact Or.inr e
  unfold yXcod at e
  split at e
  · exact key _ e
  · cases e
theorem yXhf_up {ci k : Nat} {as : List Value} {h : XH} {r : Option Value × XH} (e : yXhf ci k as h = some r) : xup2 h r.2 := by
  obtain ⟨a, fs, v, -, -, -, rfl⟩ := yXhf_of e
  exact xup2.rf
theorem yX_up : ∀ i as h r, yX i as h = some r → xup2 h r.2 := by
  intro i as h r e
  unfold yX at e
  split at e
  · rcases yXcopy_of e with e | e
    · exact xX_up 0 as h r e
    · obtain ⟨a, sp, b, dp, n, n1, l, g, -, -, -, -, -, -, rfl⟩ := yXcpc_of e
      exact xup2.rf
  · exact xX_up 1 as h r e
  · exact xX_up 2 as h r e
  · exact xX_up 4 as h r e
  · exact xX_up 10 as h r e
  · rcases yXval_of e with ⟨j, -, -, rfl⟩ | e
    · exact xup2.rf
    · exact yXhf_up e
  · rcases yXcod_of e with ⟨j, -, -, rfl⟩ | e
    · exact xup2.rf
    · exact yXhf_up e
  · obtain ⟨a, fs, v, -, -, -, rfl⟩ := yXhI_of e
    exact xup2.rf
  · exact xXmath_up e
  · exact xXmath_up e
  · exact xXmath_up e
  · cases e
def wJ5l : List Cond := .code yJ5_length_8abf5 cJ5_length_8abf5 1 (some .int) :: [.fieldLink "java/lang/AbstractStringBuilder" 79 "java/lang/AbstractStringBuilder" "count" "I"]
theorem cx_j5l (l : Launch) (q : Nat) (x : Int32) (Hh : Heap) : Met l yJ5_length_8abf5 wJ5l ({ frames := 0, cells := 0, slots := 0, locals := 0 } : Room) (va_Pc [.ref q] (fun U => U.heap = Hh ∧ va_OF "java/lang/AbstractStringBuilder" "count" "I" (.int x) q xFs U Hh)) (va_Qi (fun r (_ : Unit) => r = x) (fun _ t => t.heap = Hh) xFs) 0 0 xFs := by
  refine Met.ofW (cc := cJ5_length_8abf5) (maxL := 1) (ret := (some .int)) (by decide) rfl ?_
  intro p e s m args below meth c s₁ B hml hv
  obtain ⟨rfl, hh, hE⟩ := hv
  subst hh
  have hlocks := B.notSynchronized
  have hts := atoms_spec (ws := wJ5l) B.pre
  have hown : s.vm.findClass "java/lang/AbstractStringBuilder" = some m.cls := findClass_of_methodNamed B.named
  have hS : va_S xFs s.heap s.heap [] := va_S.rf
  have hl := lv_entry ([.ref q]) (n := 1) (Nat.le_of_ble_eq_true rfl)
  rw [lg_entry_eq]
  generalize (lg_sl ([.ref q]) ++ List.replicate (1 - (lg_sl ([.ref q])).length) Slot.unset).toArray = ls at hl ⊢
  have hl : lv_has ls 1 [(0, .ref q)] := hl
  refine lv_aload_n B.exec B.bytes (by decide +kernel : decode cJ5_length_8abf5 0 = .ok (.aload_n 0, 1)) rfl (lv_at hl 0 rfl) ?_
  refine vk_getf B.exec B.bytes hE hS hown (hts (.fieldLink "java/lang/AbstractStringBuilder" 79 "java/lang/AbstractStringBuilder" "count" "I") (by decide +kernel)) (fun x h => h) (by decide +kernel : decode cJ5_length_8abf5 1 = .ok (.getfield 79, 3)) ?_
  exact W.iret (v := x) B.exec B.bytes B.returns (fun t ht hW => ⟨⟨x, (), rfl, rfl, ht⟩, hS.F ht⟩) hS.2.2 (by decide +kernel : decode cJ5_length_8abf5 4 = .ok (.ireturn, 1))
def wJ4l : List Cond := .code yJ4_length_8abf5 cJ4_length_8abf5 1 (some .int) :: ([.methodLink "java/lang/StringBuilder" 343 yJ5_length_8abf5, .sameMethod yJ5_length_8abf5.cls yJ5_length_8abf5.cls yJ5_length_8abf5.name yJ5_length_8abf5.desc, .superclass "java/lang/StringBuilder" yJ5_length_8abf5.cls, .instanceMethod yJ5_length_8abf5, .initialized yJ5_length_8abf5.cls] ++ wJ5l)
theorem cx_j4l (l : Launch) (q : Nat) (x : Int32) (Hh : Heap) (cC : ClassId) : Met l yJ4_length_8abf5 wJ4l ({ frames := 1, cells := 0, slots := 0, locals := 40 } : Room) (va_Pc [.ref q] (fun U => U.heap = Hh ∧ ClassAt U "java/lang/StringBuilder" cC ∧ (∃ cell : Cell, Hh[q]? = some cell ∧ cell.vm.isStatics = false ∧ cell.cls = cC) ∧ va_OF "java/lang/AbstractStringBuilder" "count" "I" (.int x) q xFs U Hh)) (va_Qi (fun r (_ : Unit) => r = x) (fun _ t => t.heap = Hh) xFs) 0 0 xFs := by
  refine Met.ofW (cc := cJ4_length_8abf5) (maxL := 1) (ret := (some .int)) (by decide) rfl ?_
  intro p e s m args below meth c s₁ B hml hv
  obtain ⟨rfl, hh, hCA, ⟨cell, c1, c2, c3⟩, hE⟩ := hv
  subst hh
  have hlocks := B.notSynchronized
  have hts := atoms_spec (ws := wJ4l) B.pre
  have hown : s.vm.findClass "java/lang/StringBuilder" = some m.cls := findClass_of_methodNamed B.named
  have hS : va_S xFs s.heap s.heap [] := va_S.rf
  have hl := lv_entry ([.ref q]) (n := 1) (Nat.le_of_ble_eq_true rfl)
  rw [lg_entry_eq]
  generalize (lg_sl ([.ref q]) ++ List.replicate (1 - (lg_sl ([.ref q])).length) Slot.unset).toArray = ls at hl ⊢
  have hl : lv_has ls 1 [(0, .ref q)] := hl
  refine lv_aload_n B.exec B.bytes (by decide +kernel : decode cJ4_length_8abf5 0 = .ok (.aload_n 0, 1)) rfl (lv_at hl 0 rfl) ?_
  have hcs : va_CS ({ frames := 1, cells := 0, slots := 0, locals := 40 } : Room) s ([.ref q] : List Value).toArray "java/lang/StringBuilder" 343 yJ5_length_8abf5 cJ5_length_8abf5 1 (some .int) wJ5l ({ frames := 0, cells := 0, slots := 0, locals := 0 } : Room) 0 0 0 :=
    ⟨⟨rfl, rfl, Nat.le_refl _, Nat.le_of_ble_eq_true rfl, pay_in hts (goodIn_sub (by decide +kernel) (by decide +kernel)), List.mem_cons_self⟩, hts _ (by decide +kernel), hts _ (by decide +kernel), hts _ (by decide +kernel), hts _ (by decide +kernel), hts _ (by decide +kernel), hts _ (by decide +kernel), (by decide), fun sig hsg => by
      have h2 : (parseMethodDescriptor "()I").map (fun d => d.parameters.length) = some 0 := by decide +kernel
      rw [show parseMethodDescriptor "()I" = some sig from hsg] at h2
      exact (Option.some.inj h2).symm⟩
  refine va_calli (va_runSU (As := []) (rest := []) (nL := 1) hCA ⟨B.exec, B.bytes, hml, hown, hts⟩ (cx_j5l l q x s.heap) hcs ⟨fun a U g mk z => ⟨z.1, z.2.1, va_OF.moved (u := U) (U := U.calling g mk a) (Vm.Alike.refl U.vm) z.2.2⟩, ⟨cell, c1, c2, by rw [c3]; exact hCA.1⟩, fun U hU hW => ⟨rfl, hU, va_OF.moved hW.alike hE⟩⟩ rfl rfl hl.1 rfl (Nat.le_of_ble_eq_true rfl) (by decide +kernel : decode cJ4_length_8abf5 1 = .ok (.invokespecial 343, 3)) ⟨Nat.le_refl _, Nat.le_refl _⟩) hS (fun q _ h => h) (fun q h => h) (fun r u t H1 locs1 ht hvm hr hB hz hk hS1 => ?_)
  have eH : H1 = s.heap := by rw [← ht]; exact hB
  subst eH
  have er : r = x := hr
  subst er
  exact W.iret (v := r) B.exec B.bytes B.returns (fun t ht hW => ⟨⟨r, (), rfl, rfl, ht⟩, hS1.F ht⟩) hS1.2.2 (by decide +kernel : decode cJ4_length_8abf5 4 = .ok (.ireturn, 1))
