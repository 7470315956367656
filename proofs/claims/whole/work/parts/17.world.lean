/-! what lies there from the start: constants, their texts, static arrays, the script -/
noncomputable def xFL : List Cond := flatC (Jvm.Cond.and given_1 narrow_1)
def xcE (i : Nat) : String := if i < 6 then "EstimateContest$Fault" else "EstimateContest$Command"
def xcN (i : Nat) : String := ["NONE", "NO_PLAYER", "NO_QUESTION", "OUT_OF_RANGE", "IS_OUT", "NOT_NOW", "PLAYER", "OPEN", "BET", "SETTLE", "LATER", "OUT"].getD i ""
def xcD (i : Nat) : String := if i < 6 then "LEstimateContest$Fault;" else "LEstimateContest$Command;"
def xcO (i : Nat) : Int32 := if i < 6 then Int32.ofNat i else Int32.ofNat (i - 6)
def xcT (i : Nat) : Term := .static (xcE i) (xcN i) (xcD i)
def xswF : List Int32 := [0, 1, 2, 3, 4, 5]
def xswC : List Int32 := [1, 2, 3, 4, 5, 0]
def xdO : List Int32 := [48, 49, 50, 51, 52, 53, 54, 55, 56, 57, 48, 49, 50, 51, 52, 53, 54, 55, 56, 57, 48, 49, 50, 51, 52, 53, 54, 55, 56, 57, 48, 49, 50, 51, 52, 53, 54, 55, 56, 57, 48, 49, 50, 51, 52, 53, 54, 55, 56, 57, 48, 49, 50, 51, 52, 53, 54, 55, 56, 57, 48, 49, 50, 51, 52, 53, 54, 55, 56, 57, 48, 49, 50, 51, 52, 53, 54, 55, 56, 57, 48, 49, 50, 51, 52, 53, 54, 55, 56, 57, 48, 49, 50, 51, 52, 53, 54, 55, 56, 57]
def xdT : List Int32 := [48, 48, 48, 48, 48, 48, 48, 48, 48, 48, 49, 49, 49, 49, 49, 49, 49, 49, 49, 49, 50, 50, 50, 50, 50, 50, 50, 50, 50, 50, 51, 51, 51, 51, 51, 51, 51, 51, 51, 51, 52, 52, 52, 52, 52, 52, 52, 52, 52, 52, 53, 53, 53, 53, 53, 53, 53, 53, 53, 53, 54, 54, 54, 54, 54, 54, 54, 54, 54, 54, 55, 55, 55, 55, 55, 55, 55, 55, 55, 55, 56, 56, 56, 56, 56, 56, 56, 56, 56, 56, 57, 57, 57, 57, 57, 57, 57, 57, 57, 57]
def xfK (j : Nat) : Nat := [46, 52, 55, 58, 61, 64].getD j 0
def xfT (j : Nat) : Term := .string "EstimateContest$Command" (xfK j)
def xfV (j : Nat) : Term := .field (xfT j) "java/lang/String" "value" "[B"
def xfb : List (List Int32) := [[112, 108, 97, 121, 101, 114], [111, 112, 101, 110, 32, 49], [98, 101, 116, 32, 49, 32, 50, 32, 51, 45, 51, 32, 49, 32, 50], [115, 101, 116, 116, 108, 101, 32, 51], [108, 97, 116, 101, 114], [111, 117, 116, 32, 49]]
def xfB (j : Nat) : List Int32 := xfb.getD j []
def xFn : Nat → Nat → Prop := fun z q => z ≤ q
theorem xm_ex : ∀ i, i < 12 → Cond.exactly (xcT i) (xcE i) ∈ xFL := by decide +kernel
theorem xm_od : ∀ i, i < 12 → Cond.eq (.field (xcT i) "java/lang/Enum" "ordinal" "I") (.int (xcO i)) ∈ xFL := by decide +kernel
theorem xm_fo : ∀ j, j < 6 → Cond.eq (.field (xcT (6 + j)) "EstimateContest$Command" "form" "Ljava/lang/String;") (xfT j) ∈ xFL := by decide +kernel
theorem xm_sx : ∀ j, j < 6 → Cond.exactly (xfT j) "java/lang/String" ∈ xFL := by decide +kernel
theorem xm_sc : ∀ j, j < 6 → Cond.eq (.field (xfT j) "java/lang/String" "coder" "B") (.int 0) ∈ xFL := by decide +kernel
theorem xm_sa : ∀ j, j < 6 → Cond.arrayOf (xfV j) .byte ∈ xFL := by decide +kernel
theorem xm_sl : ∀ j, j < 6 → Cond.eq (.length (xfV j)) (.int (Int32.ofNat (xfB j).length)) ∈ xFL := by decide +kernel
theorem xm_sb : ∀ j, j < 6 → ∀ k, k < (xfB j).length → Cond.eq (.elem (xfV j) (.int (Int32.ofNat k))) (.int ((xfB j).getD k 0)) ∈ xFL := by decide +kernel
theorem xm_ne : ∀ i, i < 12 → ∀ j, j < i → Cond.not (.eq (xcT i) (xcT j)) ∈ xFL ∨ Cond.not (.eq (xcT j) (xcT i)) ∈ xFL := by decide +kernel
def xtF : Term := .static "EstimateContest$1" "$SwitchMap$EstimateContest$Fault" "[I"
theorem xm_Fa : Cond.arrayOf xtF .int ∈ xFL := by decide +kernel
theorem xm_Fl : Cond.eq (.length xtF) (.int (Int32.ofNat 6)) ∈ xFL := by decide +kernel
theorem xm_Fe : ∀ k, k < 6 → Cond.eq (.elem xtF (.int (Int32.ofNat k))) (.int (xswF.getD k 0)) ∈ xFL := by decide +kernel
def xtC : Term := .static "EstimateContest$1" "$SwitchMap$EstimateContest$Command" "[I"
theorem xm_Ca : Cond.arrayOf xtC .int ∈ xFL := by decide +kernel
theorem xm_Cl : Cond.eq (.length xtC) (.int (Int32.ofNat 6)) ∈ xFL := by decide +kernel
theorem xm_Ce : ∀ k, k < 6 → Cond.eq (.elem xtC (.int (Int32.ofNat k))) (.int (xswC.getD k 0)) ∈ xFL := by decide +kernel
def xtO : Term := .static "java/lang/Integer" "DigitOnes" "[B"
theorem xm_Oa : Cond.arrayOf xtO .byte ∈ xFL := by decide +kernel
theorem xm_Ol : Cond.eq (.length xtO) (.int (Int32.ofNat 100)) ∈ xFL := by decide +kernel
theorem xm_Oe : ∀ k, k < 100 → Cond.eq (.elem xtO (.int (Int32.ofNat k))) (.int (xdO.getD k 0)) ∈ xFL := by decide +kernel
def xtT : Term := .static "java/lang/Integer" "DigitTens" "[B"
theorem xm_Ta : Cond.arrayOf xtT .byte ∈ xFL := by decide +kernel
theorem xm_Tl : Cond.eq (.length xtT) (.int (Int32.ofNat 100)) ∈ xFL := by decide +kernel
theorem xm_Te : ∀ k, k < 100 → Cond.eq (.elem xtT (.int (Int32.ofNat k))) (.int (xdT.getD k 0)) ∈ xFL := by decide +kernel
def xtK : Term := .static "EstimateContest$CommandText" "COMMANDS" "[LEstimateContest$Command;"
theorem xm_Ka : Cond.arrayOf xtK (.object "EstimateContest$Command") ∈ xFL := by decide +kernel
theorem xm_Kl : Cond.eq (.length xtK) (.int (Int32.ofNat 6)) ∈ xFL := by decide +kernel
theorem xm_Ke : ∀ k, k < 6 → Cond.eq (.elem xtK (.int (Int32.ofNat k))) (xcT (6 + k)) ∈ xFL := by decide +kernel
theorem xm_Cs : Cond.eq (.static "java/lang/String" "COMPACT_STRINGS" "Z") (.int 1) ∈ xFL := by decide +kernel
/-- two terms that are told to be one reference -/
theorem xeqr {args : Array Value} {s : State} {t u : Term} {a : Nat} (h : (Cond.eq t u).before args s = true) (hu : u.eval args s none [] s = some (.ref a)) : t.eval args s none [] s = some (.ref a) := by
  cases hv : t.eval args s none [] s with
  | none => simp [Cond.before, Cond.holds, Cond.value, hv] at h
  | some w =>
    simp only [Cond.before, Cond.holds, Cond.value, hv, hu] at h
    cases w <;> simp_all
theorem xblt_f {a b : Nat} (h : b ≤ a) : Nat.blt a b = false := by
  cases hq : Nat.blt a b with
  | false => rfl
  | true => exact absurd (xlt hq) (by omega)
theorem xbeq_f {a b : Nat} (h : a ≠ b) : Nat.beq a b = false := by
  cases hq : Nat.beq a b with
  | false => rfl
  | true => exact absurd (Nat.eq_of_beq_eq_true hq) h
def xsaOf (ad aS vS : Nat → Nat) (b t13 t14 t15 t22 t23 z : Nat) (k : Nat) : Nat :=
  bif Nat.blt k 12 then ad k else bif Nat.beq k 12 then b else bif Nat.beq k 13 then t13 else bif Nat.beq k 14 then t14 else bif Nat.beq k 15 then t15 else bif Nat.blt k 22 then aS (k - 16) else bif Nat.beq k 22 then t22 else bif Nat.beq k 23 then t23 else bif Nat.blt k 30 then vS (k - 24) else bif Nat.blt k 32 then 0 else z + (k - 32)
/-- the start -/
def xWd (s : State) (A : Array Value) (sa : Nat → Nat) (L : Nat) (xs : Nat → Int32) : Prop :=
  (∀ i, i < 12 → (xcT i).eval A s none [] s = some (.ref (sa i)) ∧ va_O (xcE i) (sa i) (xFn s.heap.size) s s.heap ∧ va_OF "java/lang/Enum" "ordinal" "I" (.int (xcO i)) (sa i) (xFn s.heap.size) s s.heap) ∧
  (∀ i j, i < 12 → j < 12 → sa i = sa j → i = j) ∧
  (∀ j, j < 6 → va_OF "EstimateContest$Command" "form" "Ljava/lang/String;" (.ref (sa (16 + j))) (sa (6 + j)) (xFn s.heap.size) s s.heap) ∧
  (∀ j, j < 6 → va_O "java/lang/String" (sa (16 + j)) (xFn s.heap.size) s s.heap ∧ va_OF "java/lang/String" "coder" "B" (.int 0) (sa (16 + j)) (xFn s.heap.size) s s.heap ∧ va_OF "java/lang/String" "value" "[B" (.ref (sa (24 + j))) (sa (16 + j)) (xFn s.heap.size) s s.heap ∧ va_T .byte (sa (24 + j)) (xfB j).length (fun k => .int ((xfB j).getD k 0)) (xFn s.heap.size) s s.heap) ∧
  va_X (sa 12) L xs s s.heap ∧
  (xtF.eval A s none [] s = some (.ref (sa 13)) ∧ va_T .int (sa 13) 6 (fun k => .int (xswF.getD k 0)) (xFn s.heap.size) s s.heap) ∧
  (xtC.eval A s none [] s = some (.ref (sa 14)) ∧ va_T .int (sa 14) 6 (fun k => .int (xswC.getD k 0)) (xFn s.heap.size) s s.heap) ∧
  (xtK.eval A s none [] s = some (.ref (sa 15)) ∧ va_T (.object "EstimateContest$Command") (sa 15) 6 (fun k => .ref (sa (6 + k))) (xFn s.heap.size) s s.heap) ∧
  (xtO.eval A s none [] s = some (.ref (sa 22)) ∧ va_T .byte (sa 22) 100 (fun k => .int (xdO.getD k 0)) (xFn s.heap.size) s s.heap) ∧
  (xtT.eval A s none [] s = some (.ref (sa 23)) ∧ va_T .byte (sa 23) 100 (fun k => .int (xdT.getD k 0)) (xFn s.heap.size) s s.heap) ∧
  (Term.static "java/lang/String" "COMPACT_STRINGS" "Z").eval A s none [] s = some (.int 1) ∧ xSA s sa 32 ∧ sa 12 < s.heap.size
theorem va_T.cong {ty : FieldType} {t N : Nat} {f g : Nat → Value} {A : Nat → Prop} {U : State} {H : Heap} (h : va_T ty t N f A U H) (e : ∀ k, k < N → f k = g k) : va_T ty t N g A U H := by
  obtain ⟨cell, h1, h2, h3, h4, h5, h6, h7⟩ := h
  exact ⟨cell, h1, h2, h3, h4, h5, fun j hj => by rw [h6 j hj, e j hj], h7⟩
theorem xworld {s : State} {A : Array Value} {b L : Nat} {xs : Nat → Int32} (hgv : (Jvm.Cond.and given_1 narrow_1).before A s = true) (hX : va_X b L xs s s.heap) (hb : b < s.heap.size) : ∃ sa : Nat → Nat, xWd s A sa L xs ∧ sa 12 = b := by
  have hs : ∀ c ∈ xFL, c.before A s = true := flat_of_before _ hgv
  have hA : ∀ q : Nat, q < s.heap.size → ¬ xFn s.heap.size q := fun q h z => absurd h (Nat.not_lt.mpr z)
  have h0 : ∀ i : Nat, ∃ t : Nat, i < 12 → (xcT i).eval A s none [] s = some (.ref t) ∧ va_O (xcE i) t (xFn s.heap.size) s s.heap ∧ va_OF "java/lang/Enum" "ordinal" "I" (.int (xcO i)) t (xFn s.heap.size) s s.heap := by
    intro i
    by_cases hi : i < 12
    · obtain ⟨a, c, cell, k, q1, q2, q3, q4, q5, q6, -⟩ := Cond.exactly_spec (args := A) (first := s) (o := none) (s := s) (idx := []) (hs _ (xm_ex i hi))
      exact ⟨a, fun _ => ⟨q1, ⟨cell, q3, q5, by rw [q6]; exact q2, hA a (Array.getElem?_eq_some_iff.mp q3).1⟩, vk_OFof q1 (va_eqt (hs _ (xm_od i hi))) hA⟩⟩
    · exact ⟨0, fun h => absurd h hi⟩
  have h1 : ∀ j : Nat, ∃ q : Nat × Nat, j < 6 → (xfT j).eval A s none [] s = some (.ref q.1) ∧ va_O "java/lang/String" q.1 (xFn s.heap.size) s s.heap ∧ va_OF "java/lang/String" "coder" "B" (.int 0) q.1 (xFn s.heap.size) s s.heap ∧ va_OF "java/lang/String" "value" "[B" (.ref q.2) q.1 (xFn s.heap.size) s s.heap ∧ va_T .byte q.2 (xfB j).length (fun k => .int ((xfB j).getD k 0)) (xFn s.heap.size) s s.heap := by
    intro j
    by_cases hj : j < 6
    · obtain ⟨a, c, cell, k, q1, q2, q3, q4, q5, q6, -⟩ := Cond.exactly_spec (args := A) (first := s) (o := none) (s := s) (idx := []) (hs _ (xm_sx j hj))
      have hlen : (xfB j).length < 2 ^ 31 := by
        have : ∀ j, j < 6 → (xfB j).length < 2 ^ 31 := by decide +kernel
        exact this j hj
      obtain ⟨t, ht, hT⟩ := va_Tof (f := fun k => .int ((xfB j).getD k 0)) (A := xFn s.heap.size) hlen (hs _ (xm_sa j hj)) (va_eqt (hs _ (xm_sl j hj))) (fun k hk => va_eqt (hs _ (xm_sb j hj k hk))) hA
      exact ⟨(a, t), fun _ => ⟨q1, ⟨cell, q3, q5, by rw [q6]; exact q2, hA a (Array.getElem?_eq_some_iff.mp q3).1⟩, vk_OFof q1 (va_eqt (hs _ (xm_sc j hj))) hA, vk_OFof q1 ht hA, hT⟩⟩
    · exact ⟨(0, 0), fun h => absurd h hj⟩
  obtain ⟨ad, had⟩ := Classical.axiomOfChoice h0
  obtain ⟨aS, haS⟩ := Classical.axiomOfChoice h1
  obtain ⟨t13, e13, T13⟩ := va_Tof (N := 6) (f := fun k => .int (xswF.getD k 0)) (A := xFn s.heap.size) (by decide) (hs _ xm_Fa) (va_eqt (hs _ xm_Fl)) (fun k hk => va_eqt (hs _ (xm_Fe k hk))) hA
  obtain ⟨t14, e14, T14⟩ := va_Tof (N := 6) (f := fun k => .int (xswC.getD k 0)) (A := xFn s.heap.size) (by decide) (hs _ xm_Ca) (va_eqt (hs _ xm_Cl)) (fun k hk => va_eqt (hs _ (xm_Ce k hk))) hA
  obtain ⟨t22, e22, T22⟩ := va_Tof (N := 100) (f := fun k => .int (xdO.getD k 0)) (A := xFn s.heap.size) (by decide) (hs _ xm_Oa) (va_eqt (hs _ xm_Ol)) (fun k hk => va_eqt (hs _ (xm_Oe k hk))) hA
  obtain ⟨t23, e23, T23⟩ := va_Tof (N := 100) (f := fun k => .int (xdT.getD k 0)) (A := xFn s.heap.size) (by decide) (hs _ xm_Ta) (va_eqt (hs _ xm_Tl)) (fun k hk => va_eqt (hs _ (xm_Te k hk))) hA
  obtain ⟨t15, e15, T15⟩ := va_Tof (N := 6) (f := fun k => .ref (ad (6 + k))) (A := xFn s.heap.size) (by decide) (hs _ xm_Ka) (va_eqt (hs _ xm_Kl)) (fun k hk => xeqr (hs _ (xm_Ke k hk)) (had (6 + k) (by omega)).1) hA
  have sA : ∀ i, i < 12 → xsaOf ad (fun j => (aS j).1) (fun j => (aS j).2) b t13 t14 t15 t22 t23 s.heap.size i = ad i := by
    intro i hi
    unfold xsaOf
    rw [show Nat.blt i 12 = true from Nat.ble_eq_true_of_le hi]
    rfl
  have sS : ∀ j, j < 6 → xsaOf ad (fun j => (aS j).1) (fun j => (aS j).2) b t13 t14 t15 t22 t23 s.heap.size (16 + j) = (aS j).1 := by
    intro j hj
    match j, hj with
    | 0, _ => rfl
    | 1, _ => rfl
    | 2, _ => rfl
    | 3, _ => rfl
    | 4, _ => rfl
    | 5, _ => rfl
    | j + 6, hj => omega
  have sV : ∀ j, j < 6 → xsaOf ad (fun j => (aS j).1) (fun j => (aS j).2) b t13 t14 t15 t22 t23 s.heap.size (24 + j) = (aS j).2 := by
    intro j hj
    match j, hj with
    | 0, _ => rfl
    | 1, _ => rfl
    | 2, _ => rfl
    | 3, _ => rfl
    | 4, _ => rfl
    | 5, _ => rfl
    | j + 6, hj => omega
  refine ⟨xsaOf ad (fun j => (aS j).1) (fun j => (aS j).2) b t13 t14 t15 t22 t23 s.heap.size, ⟨?_, ?_, ?_, ?_, hX, ⟨e13, T13⟩, ⟨e14, T14⟩, ⟨e15, T15.cong (fun k hk => ?_)⟩, ⟨e22, T22⟩, ⟨e23, T23⟩, va_eqt (hs _ xm_Cs), ?_, hb⟩, rfl⟩
  · intro i hi
    rw [sA i hi]
    exact had i hi
  · intro i j hi hj e
    rw [sA i hi, sA j hj] at e
    by_cases hij : i = j
    · exact hij
    · rcases Nat.lt_or_gt_of_ne hij with h | h
      · rcases xm_ne j hj i h with m | m
        · exact absurd e.symm (va_neR (hs _ m) (had j hj).1 (had i hi).1)
        · exact absurd e (va_neR (hs _ m) (had i hi).1 (had j hj).1)
      · rcases xm_ne i hi j h with m | m
        · exact absurd e (va_neR (hs _ m) (had i hi).1 (had j hj).1)
        · exact absurd e.symm (va_neR (hs _ m) (had j hj).1 (had i hi).1)
  · intro j hj
    rw [sS j hj, sA (6 + j) (by omega)]
    exact vk_OFof (had (6 + j) (by omega)).1 (xeqr (hs _ (xm_fo j hj)) (haS j hj).1) hA
  · intro j hj
    rw [sS j hj, sV j hj]
    exact (haS j hj).2
  · show Value.ref (ad (6 + k)) = .ref _
    rw [sA (6 + k) (by omega)]
  · intro k hk
    unfold xsaOf
    rw [show Nat.blt k 12 = false from xblt_f (by omega), xbeq_f (show k ≠ 12 by omega), xbeq_f (show k ≠ 13 by omega), xbeq_f (show k ≠ 14 by omega), xbeq_f (show k ≠ 15 by omega), show Nat.blt k 22 = false from xblt_f (by omega), xbeq_f (show k ≠ 22 by omega), xbeq_f (show k ≠ 23 by omega), show Nat.blt k 30 = false from xblt_f (by omega), show Nat.blt k 32 = false from xblt_f (by omega)]
    rfl
