/-! what is told apart: six things, by their own contracts -/
def xFs : Nat → Prop := fun _ => False
theorem xgw {ws : List Cond} (h : ws.all (fun w => decide (w ∈ lw_tbl) && goodWord w) = true) : GoodIn Gw ws := fun w hw => by
  have h1 := List.all_eq_true.mp h w hw
  obtain ⟨h2, h3⟩ := Bool.and_eq_true_iff.mp h1
  exact ⟨xg (of_decide_eq_true h2) h3, good_of_word h3⟩
def wOrd : List Cond := .code yJx29ce0_ordinal_8abf5 cJx29ce0_ordinal_8abf5 1 (some .int) :: [.fieldLink "java/lang/Enum" 7 "java/lang/Enum" "ordinal" "I"]
theorem cx_ord (l : Launch) (q : Nat) (x : Int32) (Hh : Heap) : Met l yJx29ce0_ordinal_8abf5 wOrd ({ frames := 0, cells := 0, slots := 0, locals := 0 } : Room) (va_Pc [.ref q] (fun U => U.heap = Hh ∧ va_OF "java/lang/Enum" "ordinal" "I" (.int x) q xFs U Hh)) (va_Qi (fun r (_ : Unit) => r = x) (fun _ t => t.heap = Hh) xFs) 0 0 xFs := by
  refine Met.ofW (cc := cJx29ce0_ordinal_8abf5) (maxL := 1) (ret := (some .int)) (by decide) rfl ?_
  intro p e s m args below meth c s₁ B hml hv
  obtain ⟨rfl, hh, hE⟩ := hv
  subst hh
  have hlocks := B.notSynchronized
  have hts := atoms_spec (ws := wOrd) B.pre
  have hown : s.vm.findClass "java/lang/Enum" = some m.cls := findClass_of_methodNamed B.named
  have hS : va_S xFs s.heap s.heap [] := va_S.rf
  have hl := lv_entry ([.ref q]) (n := 1) (Nat.le_of_ble_eq_true rfl)
  rw [lg_entry_eq]
  generalize (lg_sl ([.ref q]) ++ List.replicate (1 - (lg_sl ([.ref q])).length) Slot.unset).toArray = ls at hl ⊢
  have hl : lv_has ls 1 [(0, .ref q)] := hl
  refine lv_aload_n B.exec B.bytes (by decide +kernel : decode cJx29ce0_ordinal_8abf5 0 = .ok (.aload_n 0, 1)) rfl (lv_at hl 0 rfl) ?_
  refine vk_getf B.exec B.bytes hE hS hown (hts (.fieldLink "java/lang/Enum" 7 "java/lang/Enum" "ordinal" "I") (by decide +kernel)) (fun x h => h) (by decide +kernel : decode cJx29ce0_ordinal_8abf5 1 = .ok (.getfield 7, 3)) ?_
  exact W.iret (v := x) B.exec B.bytes B.returns (fun t ht hW => ⟨⟨x, (), rfl, rfl, ht⟩, hS.F ht⟩) hS.2.2 (by decide +kernel : decode cJx29ce0_ordinal_8abf5 4 = .ok (.ireturn, 1))
def wPck : List Cond := .code yJ3_checkIndex_8e157 cJ3_checkIndex_8e157 3 (some .int) :: []
theorem cx_pck (l : Launch) (i n : Int32) (v : Value) (h0 : ¬ i < 0) (h1 : i < n) (Hh : Heap) (hv1 : v = .null ∨ ∃ t, v = .ref t) : Met l yJ3_checkIndex_8e157 wPck ({ frames := 0, cells := 0, slots := 0, locals := 0 } : Room) (va_Pc [.int i, .int n, v] (fun U => U.heap = Hh)) (va_Qi (fun r (_ : Unit) => r = i) (fun _ t => t.heap = Hh) xFs) 0 0 xFs := by
  refine Met.ofW (cc := cJ3_checkIndex_8e157) (maxL := 3) (ret := (some .int)) (by decide) rfl ?_
  intro p e s m args below meth c s₁ B hml hv
  obtain ⟨rfl, hh⟩ := hv
  subst hh
  have hlocks := B.notSynchronized
  have hS : va_S xFs s.heap s.heap [] := va_S.rf
  have hcat : v.category = 1 := by rcases hv1 with rfl | ⟨t, rfl⟩ <;> rfl
  have hlen : (lg_sl [.int i, .int n, v]).length ≤ 3 := by rcases hv1 with rfl | ⟨t, rfl⟩ <;> exact Nat.le_of_ble_eq_true rfl
  have hl := lv_entry ([.int i, .int n, v]) (n := 3) hlen
  rw [lg_entry_eq]
  generalize (lg_sl ([.int i, .int n, v]) ++ List.replicate (3 - (lg_sl ([.int i, .int n, v])).length) Slot.unset).toArray = ls at hl ⊢
  have hl : lv_has ls 3 [(0, .int i), (1, .int n), (2, v)] := hl
  refine lv_iload_n B.exec B.bytes (by decide +kernel : decode cJ3_checkIndex_8e157 0 = .ok (.iload_n 0, 1)) rfl (lv_at hl 0 rfl) ?_
  refine lv_if_lt (tgt := 9) B.exec B.bytes (by decide +kernel : decode cJ3_checkIndex_8e157 1 = .ok (.ifCond .lt 8, 3)) rfl (fun h => absurd h h0) (fun _ => ?_)
  refine lv_iload_n B.exec B.bytes (by decide +kernel : decode cJ3_checkIndex_8e157 4 = .ok (.iload_n 0, 1)) rfl (lv_at hl 0 rfl) ?_
  refine lv_iload_n B.exec B.bytes (by decide +kernel : decode cJ3_checkIndex_8e157 5 = .ok (.iload_n 1, 1)) rfl (lv_at hl 1 rfl) ?_
  refine lv_icmp_lt (tgt := 16) B.exec B.bytes (by decide +kernel : decode cJ3_checkIndex_8e157 6 = .ok (.if_icmp .lt 10, 3)) rfl (fun _ => ?_) (fun h => absurd h1 h)
  refine lv_iload_n B.exec B.bytes (by decide +kernel : decode cJ3_checkIndex_8e157 16 = .ok (.iload_n 0, 1)) rfl (lv_at hl 0 rfl) ?_
  exact W.iret (v := i) B.exec B.bytes B.returns (fun t ht hW => ⟨⟨i, (), rfl, rfl, ht⟩, hS.F ht⟩) hS.2.2 (by decide +kernel : decode cJ3_checkIndex_8e157 17 = .ok (.ireturn, 1))
def wCki : List Cond := .code yJ0_checkIndex_df160 cJ0_checkIndex_df160 2 none :: [.fieldLink "java/lang/String" 1053 "jdk/internal/util/Preconditions" "SIOOBE_FORMATTER" "Ljava/util/function/BiFunction;", .methodLink "java/lang/String" 1059 yJ3_checkIndex_8e157, .static yJ3_checkIndex_8e157, .initialized yJ3_checkIndex_8e157.cls, .code yJ3_checkIndex_8e157 cJ3_checkIndex_8e157 3 (some .int)]
def xzq (z : Nat) (U : State) (H : Heap) : Prop := va_Zq "jdk/internal/util/Preconditions" "SIOOBE_FORMATTER" "Ljava/util/function/BiFunction;" (fun q => z ≤ q) U H
theorem cx_cki (l : Launch) (i n : Int32) (h0 : ¬ i < 0) (h1 : i < n) (Hh : Heap) (z : Nat) : Met l yJ0_checkIndex_df160 wCki ({ frames := 1, cells := 0, slots := 0, locals := 40 } : Room) (va_Pc [.int i, .int n] (fun U => U.heap = Hh ∧ xzq z U Hh)) (va_Qv (fun (_ : Unit) => True) (fun _ t => t.heap = Hh) xFs) 0 0 xFs := by
  refine Met.ofW (cc := cJ0_checkIndex_df160) (maxL := 2) (ret := none) (by decide) rfl ?_
  intro p e s m args below meth c s₁ B hml hv
  obtain ⟨rfl, hh, hE⟩ := hv
  subst hh
  have hlocks := B.notSynchronized
  have hts := atoms_spec (ws := wCki) B.pre
  have hown : s.vm.findClass "java/lang/String" = some m.cls := findClass_of_methodNamed B.named
  have hS : va_S (fun q => z ≤ q) s.heap s.heap [] := va_S.rf
  have hl := lv_entry ([.int i, .int n]) (n := 2) (Nat.le_of_ble_eq_true rfl)
  rw [lg_entry_eq]
  generalize (lg_sl ([.int i, .int n]) ++ List.replicate (2 - (lg_sl ([.int i, .int n])).length) Slot.unset).toArray = ls at hl ⊢
  have hl : lv_has ls 2 [(0, .int i), (1, .int n)] := hl
  refine lv_iload_n B.exec B.bytes (by decide +kernel : decode cJ0_checkIndex_df160 0 = .ok (.iload_n 0, 1)) rfl (lv_at hl 0 rfl) ?_
  refine lv_iload_n B.exec B.bytes (by decide +kernel : decode cJ0_checkIndex_df160 1 = .ok (.iload_n 1, 1)) rfl (lv_at hl 1 rfl) ?_
  have key : ∀ v : Value, (v = .null ∨ ∃ t, v = .ref t) → W p l e ({ frames := 1, cells := 0, slots := 0, locals := 40 } : Room) s m ([.int i, .int n] : List Value).toArray below meth c s.heap [] 0 0 (MQ below (va_Qv (fun (_ : Unit) => True) (fun _ t => t.heap = s.heap) xFs) ([.int i, .int n] : List Value).toArray s 0 0 xFs) (F0 m 5 ls [v, .int n, .int i]) := by
    intro v hv1
    have hcat : v.category = 1 := by rcases hv1 with rfl | ⟨t, rfl⟩ <;> rfl
    have hS0 : va_S xFs s.heap s.heap [] := va_S.rf
    refine va_calli (va_runS (As := [.int i, .int n, v]) (rest := []) (nL := 2) ⟨B.exec, B.bytes, hml, hown, hts⟩ (cx_pck l i n v h0 h1 s.heap hv1) ⟨callB_of 3 hts (goodIn_sub (by decide +kernel) (by decide +kernel)) rfl rfl rfl (hts (.initialized yJ3_checkIndex_8e157.cls) (by decide +kernel)) (hts (.methodLink "java/lang/String" 1059 yJ3_checkIndex_8e157) (by decide +kernel)) ⟨by decide +kernel, by decide +kernel, by decide +kernel⟩ ⟨Nat.le_of_ble_eq_true rfl, Nat.le_of_ble_eq_true rfl⟩, hts (.static yJ3_checkIndex_8e157) (by decide +kernel)⟩ ⟨fun a U g mk q => q, fun U hU hW => ⟨rfl, hU⟩⟩ rfl rfl hl.1 rfl (lv_room (Nat.le_of_ble_eq_true rfl)) (by decide +kernel : decode cJ0_checkIndex_df160 5 = .ok (.invokestatic 1059, 3)) ⟨Nat.le_refl _, Nat.le_refl _⟩) hS0 (fun q _ h => h) (fun q h => h) (fun r u t H1 locs1 ht hvm hr hB hz hk hS1 => ?_)
    have eH : H1 = s.heap := by rw [← ht]; exact hB
    subst eH
    refine lv_pop B.exec B.bytes (by decide +kernel : decode cJ0_checkIndex_df160 8 = .ok (.pop, 1)) rfl ?_
    exact W.vret B.exec B.bytes B.returns (fun t ht hW => ⟨⟨(), rfl, trivial, ht⟩, hS1.F ht⟩) hS1.2.2 (by decide +kernel : decode cJ0_checkIndex_df160 9 = .ok (.return_, 1))
  rcases hE with hE | ⟨t, hE⟩
  · exact va_gets B.exec B.bytes hE hS hown (hts (.fieldLink "java/lang/String" 1053 "jdk/internal/util/Preconditions" "SIOOBE_FORMATTER" "Ljava/util/function/BiFunction;") (by decide +kernel)) (fun x hx => hx) (by decide +kernel : decode cJ0_checkIndex_df160 2 = .ok (.getstatic 1053, 3)) (key .null (Or.inl rfl))
  · exact va_gets B.exec B.bytes hE hS hown (hts (.fieldLink "java/lang/String" 1053 "jdk/internal/util/Preconditions" "SIOOBE_FORMATTER" "Ljava/util/function/BiFunction;") (by decide +kernel)) (fun x hx => hx) (by decide +kernel : decode cJ0_checkIndex_df160 2 = .ok (.getstatic 1053, 3)) (key (.ref t) (Or.inr ⟨t, rfl⟩))
/-- what they do -/
def xXcopy (as : List Value) (h : XH) : Option (Option Value × XH) := match as with
  | [.ref a, .int sp, .ref b, .int dp, .int n] => match h.1 a, h.1 b with
    | some (.inl (t, (n0, .inl f))), some (.inl (t2, (n1, .inl g))) => if (t = t2 ∧ (t = 0 ∨ t = 4)) ∧ (¬ sp < 0 ∧ ¬ dp < 0 ∧ ¬ n < 0) ∧ (sp.toNatClampNeg + n.toNatClampNeg ≤ n0 ∧ dp.toNatClampNeg + n.toNatClampNeg ≤ n1) ∧ (t = 4 → ∀ i, i < n.toNatClampNeg → fits .byte (.int (f (sp.toNatClampNeg + i))) = true) then some (none, (xup h.1 b (.inl (t2, (n1, .inl (va_cpy f g sp.toNatClampNeg dp.toNatClampNeg n.toNatClampNeg)))), h.2)) else none
    | _, _ => none
  | _ => none
def xXord (lo : Nat) (as : List Value) (h : XH) : Option (Option Value × XH) := match as with
  | [.ref a] => if lo ≤ a ∧ a < lo + 6 then some (some (.int (xcO a)), h) else none
  | _ => none
def xXcki (as : List Value) (h : XH) : Option (Option Value × XH) := match as with
  | [.int i, .int n] => if ¬ i < 0 ∧ i < n then some (none, h) else none
  | _ => none
def xXfld (lo : Nat) (g : Nat → Value) (as : List Value) (h : XH) : Option (Option Value × XH) := match as with
  | [.ref a] => if lo ≤ a ∧ a < lo + 6 then some (some (g a), h) else none
  | _ => none
def xXmath (k : Nat) (as : List Value) (h : XH) : Option (Option Value × XH) := match k, as with
  | 0, [.int x, .int y] => some (some (.int (if x < y then y else x)), h)
  | 1, [.int x, .int y] => some (some (.int (if y < x then y else x)), h)
  | 2, [.int x] => some (some (.int (if 0 ≤ x then x else 0 - x)), h)
  | _, _ => none
def xX : XX := fun i as h => match i with
  | 0 => xXcopy as h
  | 1 => xXord 0 as h
  | 2 => xXord 6 as h
  | 4 => xXcki as h
  | 10 => xXfld 6 (fun a => .ref (a + 10)) as h
  | 12 => xXfld 16 (fun a => .ref (a + 8)) as h
  | 13 => xXfld 16 (fun _ => .int 0) as h
  | 20 => xXmath 0 as h
  | 21 => xXmath 1 as h
  | 22 => xXmath 2 as h
  | _ => none
theorem xXcopy_of {as : List Value} {h : XH} {r : Option Value × XH} (e : xXcopy as h = some r) : ∃ a sp b dp n t n0 n1 f g, as = [.ref a, .int sp, .ref b, .int dp, .int n] ∧ h.1 a = some (.inl (t, (n0, .inl f))) ∧ h.1 b = some (.inl (t, (n1, .inl g))) ∧ (t = 0 ∨ t = 4) ∧ (¬ sp < 0 ∧ ¬ dp < 0 ∧ ¬ n < 0) ∧ (sp.toNatClampNeg + n.toNatClampNeg ≤ n0 ∧ dp.toNatClampNeg + n.toNatClampNeg ≤ n1) ∧ (t = 4 → ∀ i, i < n.toNatClampNeg → fits .byte (.int (f (sp.toNatClampNeg + i))) = true) ∧ r = (none, (xup h.1 b (.inl (t, (n1, .inl (va_cpy f g sp.toNatClampNeg dp.toNatClampNeg n.toNatClampNeg)))), h.2)) := by
  unfold xXcopy at e
  split at e
  · rename_i a sp b dp n
    split at e
    · rename_i t n0 f t2 n1 g ha hb
      split at e
      · rename_i hc
        obtain ⟨⟨rfl, h1⟩, h2, h3, h4⟩ := hc
        exact ⟨a, sp, b, dp, n, t, n0, n1, f, g, rfl, ha, hb, h1, h2, h3, h4, (Option.some.inj e).symm⟩
      · cases e
    · cases e
  · cases e
theorem xXord_of {lo : Nat} {as : List Value} {h : XH} {r : Option Value × XH} (e : xXord lo as h = some r) : ∃ a : Nat, as = [.ref a] ∧ lo ≤ a ∧ a < lo + 6 ∧ r = (some (.int (xcO a)), h) := by
  unfold xXord at e
  split at e
  · split at e
    · rename_i hc
      exact ⟨_, rfl, hc.1, hc.2, (Option.some.inj e).symm⟩
    · cases e
  · cases e
theorem xXfld_of {lo : Nat} {g : Nat → Value} {as : List Value} {h : XH} {r : Option Value × XH} (e : xXfld lo g as h = some r) : ∃ a : Nat, as = [.ref a] ∧ lo ≤ a ∧ a < lo + 6 ∧ r = (some (g a), h) := by
  unfold xXfld at e
  split at e
  · split at e
    · rename_i hc
      exact ⟨_, rfl, hc.1, hc.2, (Option.some.inj e).symm⟩
    · cases e
  · cases e
theorem xXcki_of {as : List Value} {h : XH} {r : Option Value × XH} (e : xXcki as h = some r) : ∃ i n, as = [.int i, .int n] ∧ ¬ i < 0 ∧ i < n ∧ r = (none, h) := by
  unfold xXcki at e
  split at e
  · split at e
    · rename_i hc
      exact ⟨_, _, rfl, hc.1, hc.2, (Option.some.inj e).symm⟩
    · cases e
  · cases e
theorem xXmath_of {k : Nat} {as : List Value} {h : XH} {r : Option Value × XH} (e : xXmath k as h = some r) : (∃ x y, k = 0 ∧ as = [.int x, .int y] ∧ r = (some (.int (if x < y then y else x)), h)) ∨ (∃ x y, k = 1 ∧ as = [.int x, .int y] ∧ r = (some (.int (if y < x then y else x)), h)) ∨ ∃ x, k = 2 ∧ as = [.int x] ∧ r = (some (.int (if 0 ≤ x then x else 0 - x)), h) := by
  unfold xXmath at e
  split at e
  · exact Or.inl ⟨_, _, rfl, rfl, (Option.some.inj e).symm⟩
  · exact Or.inr (Or.inl ⟨_, _, rfl, rfl, (Option.some.inj e).symm⟩)
  · exact Or.inr (Or.inr ⟨_, rfl, rfl, (Option.some.inj e).symm⟩)
  · cases e
theorem xXmath_up {k : Nat} {as : List Value} {h : XH} {r : Option Value × XH} (e : xXmath k as h = some r) : xup2 h r.2 := by
  rcases xXmath_of e with ⟨x, y, -, -, rfl⟩ | ⟨x, y, -, -, rfl⟩ | ⟨x, -, -, rfl⟩ <;> exact xup2.rf
theorem xX_up : ∀ i as h r, xX i as h = some r → xup2 h r.2 := by
  intro i as h r e
  unfold xX at e
  split at e
  · obtain ⟨a, sp, b, dp, n, t, n0, n1, f, g, -, -, -, -, -, -, -, rfl⟩ := xXcopy_of e
    exact xup2.rf
  · obtain ⟨a, -, -, -, rfl⟩ := xXord_of e
    exact xup2.rf
  · obtain ⟨a, -, -, -, rfl⟩ := xXord_of e
    exact xup2.rf
  · obtain ⟨i, n, -, -, -, rfl⟩ := xXcki_of e
    exact xup2.rf
  · obtain ⟨a, -, -, -, rfl⟩ := xXfld_of e
    exact xup2.rf
  · obtain ⟨a, -, -, -, rfl⟩ := xXfld_of e
    exact xup2.rf
  · obtain ⟨a, -, -, -, rfl⟩ := xXfld_of e
    exact xup2.rf
  · exact xXmath_up e
  · exact xXmath_up e
  · exact xXmath_up e
  · cases e
