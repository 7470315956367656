/-! every row of the table, all methods together -/
def xN (P : Nat → Prop) : Nat → Nat → Prop
  | 0, _ => True
  | n + 1, k => P k ∧ xN P n (k + 1)
theorem xN_at {P : Nat → Prop} : ∀ (n k : Nat), xN P n k → ∀ i, k ≤ i → i < k + n → P i
  | 0, k, _, i, h1, h2 => absurd h2 (by omega)
  | n + 1, k, h, i, h1, h2 => by
    by_cases hi : i = k
    · rw [hi]; exact h.1
    · exact xN_at n (k + 1) h.2 i (by omega) (by omega)
theorem xnth_lt {α : Type} : ∀ (l : List α) (i : Nat) (q : α), xnth l i = some q → i < l.length
  | [], i, q, h => by cases h
  | a :: r, 0, q, h => Nat.succ_pos _
  | a :: r, i + 1, q, h => Nat.succ_lt_succ (xnth_lt r i q h)
theorem xnth_none {α : Type} : ∀ (l : List α) (i : Nat), l.length ≤ i → xnth l i = none
  | [], i, h => by cases i <;> rfl
  | a :: r, 0, h => absurd h (Nat.not_succ_le_zero _)
  | a :: r, i + 1, h => xnth_none r i (Nat.le_of_succ_le_succ h)
set_option maxRecDepth 100000 in
theorem LCl_lt : LCl.all (fun q => Nat.blt q.2.2.2.1 329) = true := by decide +kernel
theorem LUl_lt : LUl.all (fun q => Nat.blt q.2.2.1 329) = true := by decide +kernel
theorem chkC_lt {o i : Nat} {e : XI} (h : chkC o i e = true) (h4 : e.2.2.2.headD 9 ≠ 4) : e.2.1.1 < 329 := by
  unfold chkC at h
  have hb : Nat.beq (e.2.2.2.headD 9) 4 = false := by
    cases hq : Nat.beq (e.2.2.2.headD 9) 4 with
    | false => rfl
    | true => exact absurd (Nat.eq_of_beq_eq_true hq) h4
  rw [hb] at h
  have h : (bif decide (e = (xins (e.2.2.2.headD 9) i, (e.2.1, ([], [e.2.2.2.headD 9])))) then decide ((o, (i, (e.2.2.2.headD 9, e.2.1))) ∈ LCl) else decide ((o, (i, e.2.1)) ∈ LUl) && decide (e = ((.invokespecial i, (e.2.1, ([], [3]))) : XI))) = true := h
  cases hbb : decide (e = (xins (e.2.2.2.headD 9) i, (e.2.1, ([], [e.2.2.2.headD 9])))) with
  | false =>
    rw [hbb] at h
    obtain ⟨g1, -⟩ := Bool.and_eq_true_iff.mp h
    exact xlt (List.all_eq_true.mp LUl_lt _ (of_decide_eq_true g1))
  | true =>
    rw [hbb] at h
    exact xlt (List.all_eq_true.mp LCl_lt _ (of_decide_eq_true h))
theorem chk_lt {bytes : ByteArray} {o mid ini : Nat} {l : List (Nat × XI)} (h : l.all (fun q => chkE bytes o mid ini q) = true) {pc : Nat} {e : XI} (he : xfind l pc = some e) {q : Nat × (List Value × List Value)} {st : List Value} (hq : xcall e st = some q) (h4 : q.1 < 4) : e.2.1.1 < 329 := by
  have h1 := List.all_eq_true.mp h _ (xfind_mem l pc e he)
  obtain ⟨c1, c2⟩ := Bool.and_eq_true_iff.mp h1
  obtain ⟨c3, c4⟩ := Bool.and_eq_true_iff.mp c2
  change chkL o mid ini pc e = true at c4
  obtain ⟨i, ⟨a, b⟩, vs, ts⟩ := e
  have own : ∀ {x : Option (List Value × List Value)}, x.map (fun q => (ts.headD 9, q)) = some q → ts.headD 9 ≠ 4 := by
    intro x hx z
    cases x with
    | none => cases hx
    | some y =>
      cases hx
      have h4 : ts.headD 9 < 4 := h4
      omega
  cases i
  case invokevirtual j => exact chkC_lt (i := j) (o := o) c4 (own hq)
  case invokestatic j => exact chkC_lt (i := j) (o := o) c4 (own hq)
  case invokespecial j => exact chkC_lt (i := j) (o := o) c4 (own hq)
  case getfield j =>
    have hq : (bif Nat.beq (ts.headD 9) 4 then (xcut (.getfield j, ((a, b), (vs, ts))) st).map (fun q => (ts.headD 9, q)) else none) = some q := hq
    cases hq9 : Nat.beq (ts.headD 9) 4 with
    | false => rw [hq9] at hq; cases hq
    | true =>
      rw [hq9] at hq
      exact absurd (Nat.eq_of_beq_eq_true hq9) (own hq)
  all_goals cases hq
/-- what is asked of a whole method -/
def xRows (s0 : State) (sa : Nat → Nat) (mid : Nat) : Prop := ∀ l, xnth xcodes mid = some l → ∀ pc e, xfind l pc = some e → xRow s0 sa mid pc e ∧ ∀ q st, xcall e st = some q → q.1 < 4 → e.2.1.1 < 329
theorem xRows.of {s0 : State} {sa : Nat → Nat} (hy : xDyn s0 sa) {bytes : ByteArray} {o mid ini : Nat} {l : List (Nat × XI)} (h : l.all (fun q => chkE bytes o mid ini q) = true) (hl : xnth xcodes mid = some l) (hb : xM.2.1 mid = bytes) (ho : (xM.1 mid).cls = xown o) (hi : ini = 1 → (xM.1 mid).name = "<init>") : xRows s0 sa mid := by
  intro l2 hl2 pc e he
  cases hl.symm.trans hl2
  exact ⟨chk_ok hy h hb ho hi pc e he, fun q st hq h4 => chk_lt h he hq h4⟩
theorem xm_0 : xokM xT xM 0 := ⟨by decide +kernel, rfl, by decide +kernel, by decide +kernel, by decide +kernel⟩
theorem xm_1 : xokM xT xM 1 := ⟨by decide +kernel, rfl, by decide +kernel, by decide +kernel, by decide +kernel⟩
theorem xm_2 : xokM xT xM 2 := ⟨by decide +kernel, rfl, by decide +kernel, by decide +kernel, by decide +kernel⟩
theorem xm_3 : xokM xT xM 3 := ⟨by decide +kernel, rfl, by decide +kernel, by decide +kernel, by decide +kernel⟩
theorem xm_4 : xokM xT xM 4 := ⟨by decide +kernel, rfl, by decide +kernel, by decide +kernel, by decide +kernel⟩
theorem xm_5 : xokM xT xM 5 := ⟨by decide +kernel, rfl, by decide +kernel, by decide +kernel, by decide +kernel⟩
theorem xm_6 : xokM xT xM 6 := ⟨by decide +kernel, rfl, by decide +kernel, by decide +kernel, by decide +kernel⟩
theorem xm_7 : xokM xT xM 7 := ⟨by decide +kernel, rfl, by decide +kernel, by decide +kernel, by decide +kernel⟩
theorem xm_8 : xokM xT xM 8 := ⟨by decide +kernel, rfl, by decide +kernel, by decide +kernel, by decide +kernel⟩
theorem xm_9 : xokM xT xM 9 := ⟨by decide +kernel, rfl, by decide +kernel, by decide +kernel, by decide +kernel⟩
theorem xm_10 : xokM xT xM 10 := ⟨by decide +kernel, rfl, by decide +kernel, by decide +kernel, by decide +kernel⟩
theorem xm_11 : xokM xT xM 11 := ⟨by decide +kernel, rfl, by decide +kernel, by decide +kernel, by decide +kernel⟩
theorem xm_12 : xokM xT xM 12 := ⟨by decide +kernel, rfl, by decide +kernel, by decide +kernel, by decide +kernel⟩
theorem xm_13 : xokM xT xM 13 := ⟨by decide +kernel, rfl, by decide +kernel, by decide +kernel, by decide +kernel⟩
theorem xm_14 : xokM xT xM 14 := ⟨by decide +kernel, ⟨_, rfl, Or.inl ⟨_, rfl⟩⟩, by decide +kernel, by decide +kernel, by decide +kernel⟩
theorem xm_15 : xokM xT xM 15 := ⟨by decide +kernel, rfl, by decide +kernel, by decide +kernel, by decide +kernel⟩
theorem xm_16 : xokM xT xM 16 := ⟨by decide +kernel, ⟨_, rfl, Or.inl ⟨_, rfl⟩⟩, by decide +kernel, by decide +kernel, by decide +kernel⟩
theorem xm_17 : xokM xT xM 17 := ⟨by decide +kernel, rfl, by decide +kernel, by decide +kernel, by decide +kernel⟩
theorem xm_18 : xokM xT xM 18 := ⟨by decide +kernel, ⟨_, rfl, Or.inl ⟨_, rfl⟩⟩, by decide +kernel, by decide +kernel, by decide +kernel⟩
theorem xm_19 : xokM xT xM 19 := ⟨by decide +kernel, rfl, by decide +kernel, by decide +kernel, by decide +kernel⟩
theorem xm_20 : xokM xT xM 20 := ⟨by decide +kernel, ⟨_, rfl, Or.inl ⟨_, rfl⟩⟩, by decide +kernel, by decide +kernel, by decide +kernel⟩
theorem xm_21 : xokM xT xM 21 := ⟨by decide +kernel, rfl, by decide +kernel, by decide +kernel, by decide +kernel⟩
theorem xm_22 : xokM xT xM 22 := ⟨by decide +kernel, rfl, by decide +kernel, by decide +kernel, by decide +kernel⟩
theorem xm_23 : xokM xT xM 23 := ⟨by decide +kernel, rfl, by decide +kernel, by decide +kernel, by decide +kernel⟩
theorem xm_24 : xokM xT xM 24 := ⟨by decide +kernel, rfl, by decide +kernel, by decide +kernel, by decide +kernel⟩
theorem xm_25 : xokM xT xM 25 := ⟨by decide +kernel, ⟨_, rfl, Or.inl ⟨_, rfl⟩⟩, by decide +kernel, by decide +kernel, by decide +kernel⟩
theorem xm_26 : xokM xT xM 26 := ⟨by decide +kernel, rfl, by decide +kernel, by decide +kernel, by decide +kernel⟩
theorem xm_27 : xokM xT xM 27 := ⟨by decide +kernel, ⟨_, rfl, Or.inl ⟨_, rfl⟩⟩, by decide +kernel, by decide +kernel, by decide +kernel⟩
theorem xm_28 : xokM xT xM 28 := ⟨by decide +kernel, rfl, by decide +kernel, by decide +kernel, by decide +kernel⟩
theorem xm_29 : xokM xT xM 29 := ⟨by decide +kernel, rfl, by decide +kernel, by decide +kernel, by decide +kernel⟩
theorem xm_30 : xokM xT xM 30 := ⟨by decide +kernel, rfl, by decide +kernel, by decide +kernel, by decide +kernel⟩
theorem xm_31 : xokM xT xM 31 := ⟨by decide +kernel, rfl, by decide +kernel, by decide +kernel, by decide +kernel⟩
theorem xm_32 : xokM xT xM 32 := ⟨by decide +kernel, rfl, by decide +kernel, by decide +kernel, by decide +kernel⟩
theorem xm_33 : xokM xT xM 33 := ⟨by decide +kernel, rfl, by decide +kernel, by decide +kernel, by decide +kernel⟩
theorem xm_34 : xokM xT xM 34 := ⟨by decide +kernel, rfl, by decide +kernel, by decide +kernel, by decide +kernel⟩
theorem xm_35 : xokM xT xM 35 := ⟨by decide +kernel, rfl, by decide +kernel, by decide +kernel, by decide +kernel⟩
theorem xm_36 : xokM xT xM 36 := ⟨by decide +kernel, rfl, by decide +kernel, by decide +kernel, by decide +kernel⟩
theorem xm_37 : xokM xT xM 37 := ⟨by decide +kernel, rfl, by decide +kernel, by decide +kernel, by decide +kernel⟩
theorem xm_38 : xokM xT xM 38 := ⟨by decide +kernel, rfl, by decide +kernel, by decide +kernel, by decide +kernel⟩
theorem xm_39 : xokM xT xM 39 := ⟨by decide +kernel, rfl, by decide +kernel, by decide +kernel, by decide +kernel⟩
theorem xm_40 : xokM xT xM 40 := ⟨by decide +kernel, rfl, by decide +kernel, by decide +kernel, by decide +kernel⟩
theorem xm_41 : xokM xT xM 41 := ⟨by decide +kernel, rfl, by decide +kernel, by decide +kernel, by decide +kernel⟩
theorem xm_42 : xokM xT xM 42 := ⟨by decide +kernel, rfl, by decide +kernel, by decide +kernel, by decide +kernel⟩
theorem xm_43 : xokM xT xM 43 := ⟨by decide +kernel, ⟨_, rfl, Or.inl ⟨_, rfl⟩⟩, by decide +kernel, by decide +kernel, by decide +kernel⟩
theorem xm_44 : xokM xT xM 44 := ⟨by decide +kernel, rfl, by decide +kernel, by decide +kernel, by decide +kernel⟩
theorem xm_45 : xokM xT xM 45 := ⟨by decide +kernel, rfl, by decide +kernel, by decide +kernel, by decide +kernel⟩
theorem xm_46 : xokM xT xM 46 := ⟨by decide +kernel, rfl, by decide +kernel, by decide +kernel, by decide +kernel⟩
theorem xm_47 : xokM xT xM 47 := ⟨by decide +kernel, rfl, by decide +kernel, by decide +kernel, by decide +kernel⟩
theorem xm_48 : xokM xT xM 48 := ⟨by decide +kernel, rfl, by decide +kernel, by decide +kernel, by decide +kernel⟩
theorem xm_49 : xokM xT xM 49 := ⟨by decide +kernel, rfl, by decide +kernel, by decide +kernel, by decide +kernel⟩
theorem xm_50 : xokM xT xM 50 := ⟨by decide +kernel, rfl, by decide +kernel, by decide +kernel, by decide +kernel⟩
theorem xm_51 : xokM xT xM 51 := ⟨by decide +kernel, rfl, by decide +kernel, by decide +kernel, by decide +kernel⟩
theorem xm_52 : xokM xT xM 52 := ⟨by decide +kernel, rfl, by decide +kernel, by decide +kernel, by decide +kernel⟩
theorem xm_53 : xokM xT xM 53 := ⟨by decide +kernel, rfl, by decide +kernel, by decide +kernel, by decide +kernel⟩
theorem xm_54 : xokM xT xM 54 := ⟨by decide +kernel, rfl, by decide +kernel, by decide +kernel, by decide +kernel⟩
theorem xm_55 : xokM xT xM 55 := ⟨by decide +kernel, rfl, by decide +kernel, by decide +kernel, by decide +kernel⟩
theorem xm_56 : xokM xT xM 56 := ⟨by decide +kernel, rfl, by decide +kernel, by decide +kernel, by decide +kernel⟩
theorem xm_57 : xokM xT xM 57 := ⟨by decide +kernel, rfl, by decide +kernel, by decide +kernel, by decide +kernel⟩
theorem xm_58 : xokM xT xM 58 := ⟨by decide +kernel, rfl, by decide +kernel, by decide +kernel, by decide +kernel⟩
theorem xm_59 : xokM xT xM 59 := ⟨by decide +kernel, rfl, by decide +kernel, by decide +kernel, by decide +kernel⟩
theorem xm_60 : xokM xT xM 60 := ⟨by decide +kernel, rfl, by decide +kernel, by decide +kernel, by decide +kernel⟩
theorem xm_61 : xokM xT xM 61 := ⟨by decide +kernel, rfl, by decide +kernel, by decide +kernel, by decide +kernel⟩
theorem xm_62 : xokM xT xM 62 := ⟨by decide +kernel, rfl, by decide +kernel, by decide +kernel, by decide +kernel⟩
theorem xm_63 : xokM xT xM 63 := ⟨by decide +kernel, rfl, by decide +kernel, by decide +kernel, by decide +kernel⟩
theorem xm_64 : xokM xT xM 64 := ⟨by decide +kernel, rfl, by decide +kernel, by decide +kernel, by decide +kernel⟩
theorem xm_65 : xokM xT xM 65 := ⟨by decide +kernel, rfl, by decide +kernel, by decide +kernel, by decide +kernel⟩
theorem xm_66 : xokM xT xM 66 := ⟨by decide +kernel, rfl, by decide +kernel, by decide +kernel, by decide +kernel⟩
theorem xm_67 : xokM xT xM 67 := ⟨by decide +kernel, rfl, by decide +kernel, by decide +kernel, by decide +kernel⟩
theorem xm_68 : xokM xT xM 68 := ⟨by decide +kernel, rfl, by decide +kernel, by decide +kernel, by decide +kernel⟩
theorem xm_69 : xokM xT xM 69 := ⟨by decide +kernel, rfl, by decide +kernel, by decide +kernel, by decide +kernel⟩
theorem xm_70 : xokM xT xM 70 := ⟨by decide +kernel, rfl, by decide +kernel, by decide +kernel, by decide +kernel⟩
theorem xm_71 : xokM xT xM 71 := ⟨by decide +kernel, rfl, by decide +kernel, by decide +kernel, by decide +kernel⟩
theorem xm_72 : xokM xT xM 72 := ⟨by decide +kernel, rfl, by decide +kernel, by decide +kernel, by decide +kernel⟩
theorem xm_73 : xokM xT xM 73 := ⟨by decide +kernel, rfl, by decide +kernel, by decide +kernel, by decide +kernel⟩
theorem xm_74 : xokM xT xM 74 := ⟨by decide +kernel, rfl, by decide +kernel, by decide +kernel, by decide +kernel⟩
theorem xm_75 : xokM xT xM 75 := ⟨by decide +kernel, rfl, by decide +kernel, by decide +kernel, by decide +kernel⟩
theorem xm_76 : xokM xT xM 76 := ⟨by decide +kernel, rfl, by decide +kernel, by decide +kernel, by decide +kernel⟩
theorem xm_77 : xokM xT xM 77 := ⟨by decide +kernel, rfl, by decide +kernel, by decide +kernel, by decide +kernel⟩
theorem xm_78 : xokM xT xM 78 := ⟨by decide +kernel, rfl, by decide +kernel, by decide +kernel, by decide +kernel⟩
theorem xm_79 : xokM xT xM 79 := ⟨by decide +kernel, rfl, by decide +kernel, by decide +kernel, by decide +kernel⟩
theorem xm_80 : xokM xT xM 80 := ⟨by decide +kernel, rfl, by decide +kernel, by decide +kernel, by decide +kernel⟩
theorem xm_81 : xokM xT xM 81 := ⟨by decide +kernel, rfl, by decide +kernel, by decide +kernel, by decide +kernel⟩
theorem xm_82 : xokM xT xM 82 := ⟨by decide +kernel, rfl, by decide +kernel, by decide +kernel, by decide +kernel⟩
theorem xm_83 : xokM xT xM 83 := ⟨by decide +kernel, rfl, by decide +kernel, by decide +kernel, by decide +kernel⟩
theorem xm_84 : xokM xT xM 84 := ⟨by decide +kernel, rfl, by decide +kernel, by decide +kernel, by decide +kernel⟩
theorem xm_85 : xokM xT xM 85 := ⟨by decide +kernel, rfl, by decide +kernel, by decide +kernel, by decide +kernel⟩
theorem xm_86 : xokM xT xM 86 := ⟨by decide +kernel, rfl, by decide +kernel, by decide +kernel, by decide +kernel⟩
theorem xm_87 : xokM xT xM 87 := ⟨by decide +kernel, rfl, by decide +kernel, by decide +kernel, by decide +kernel⟩
theorem xm_88 : xokM xT xM 88 := ⟨by decide +kernel, rfl, by decide +kernel, by decide +kernel, by decide +kernel⟩
theorem xm_89 : xokM xT xM 89 := ⟨by decide +kernel, rfl, by decide +kernel, by decide +kernel, by decide +kernel⟩
theorem xm_90 : xokM xT xM 90 := ⟨by decide +kernel, rfl, by decide +kernel, by decide +kernel, by decide +kernel⟩
theorem xm_91 : xokM xT xM 91 := ⟨by decide +kernel, rfl, by decide +kernel, by decide +kernel, by decide +kernel⟩
theorem xm_92 : xokM xT xM 92 := ⟨by decide +kernel, rfl, by decide +kernel, by decide +kernel, by decide +kernel⟩
theorem xm_93 : xokM xT xM 93 := ⟨by decide +kernel, rfl, by decide +kernel, by decide +kernel, by decide +kernel⟩
theorem xm_94 : xokM xT xM 94 := ⟨by decide +kernel, rfl, by decide +kernel, by decide +kernel, by decide +kernel⟩
theorem xm_95 : xokM xT xM 95 := ⟨by decide +kernel, rfl, by decide +kernel, by decide +kernel, by decide +kernel⟩
theorem xm_96 : xokM xT xM 96 := ⟨by decide +kernel, rfl, by decide +kernel, by decide +kernel, by decide +kernel⟩
theorem xm_97 : xokM xT xM 97 := ⟨by decide +kernel, rfl, by decide +kernel, by decide +kernel, by decide +kernel⟩
theorem xm_98 : xokM xT xM 98 := ⟨by decide +kernel, rfl, by decide +kernel, by decide +kernel, by decide +kernel⟩
theorem xm_99 : xokM xT xM 99 := ⟨by decide +kernel, rfl, by decide +kernel, by decide +kernel, by decide +kernel⟩
theorem xm_100 : xokM xT xM 100 := ⟨by decide +kernel, rfl, by decide +kernel, by decide +kernel, by decide +kernel⟩
theorem xm_101 : xokM xT xM 101 := ⟨by decide +kernel, rfl, by decide +kernel, by decide +kernel, by decide +kernel⟩
theorem xm_102 : xokM xT xM 102 := ⟨by decide +kernel, rfl, by decide +kernel, by decide +kernel, by decide +kernel⟩
theorem xm_103 : xokM xT xM 103 := ⟨by decide +kernel, rfl, by decide +kernel, by decide +kernel, by decide +kernel⟩
theorem xm_104 : xokM xT xM 104 := ⟨by decide +kernel, rfl, by decide +kernel, by decide +kernel, by decide +kernel⟩
theorem xm_105 : xokM xT xM 105 := ⟨by decide +kernel, rfl, by decide +kernel, by decide +kernel, by decide +kernel⟩
theorem xm_106 : xokM xT xM 106 := ⟨by decide +kernel, rfl, by decide +kernel, by decide +kernel, by decide +kernel⟩
theorem xm_107 : xokM xT xM 107 := ⟨by decide +kernel, rfl, by decide +kernel, by decide +kernel, by decide +kernel⟩
theorem xm_108 : xokM xT xM 108 := ⟨by decide +kernel, rfl, by decide +kernel, by decide +kernel, by decide +kernel⟩
theorem xm_109 : xokM xT xM 109 := ⟨by decide +kernel, rfl, by decide +kernel, by decide +kernel, by decide +kernel⟩
theorem xm_110 : xokM xT xM 110 := ⟨by decide +kernel, rfl, by decide +kernel, by decide +kernel, by decide +kernel⟩
theorem xm_111 : xokM xT xM 111 := ⟨by decide +kernel, rfl, by decide +kernel, by decide +kernel, by decide +kernel⟩
theorem xm_112 : xokM xT xM 112 := ⟨by decide +kernel, rfl, by decide +kernel, by decide +kernel, by decide +kernel⟩
theorem xm_113 : xokM xT xM 113 := ⟨by decide +kernel, rfl, by decide +kernel, by decide +kernel, by decide +kernel⟩
theorem xm_114 : xokM xT xM 114 := ⟨by decide +kernel, rfl, by decide +kernel, by decide +kernel, by decide +kernel⟩
theorem xm_115 : xokM xT xM 115 := ⟨by decide +kernel, rfl, by decide +kernel, by decide +kernel, by decide +kernel⟩
theorem xm_116 : xokM xT xM 116 := ⟨by decide +kernel, rfl, by decide +kernel, by decide +kernel, by decide +kernel⟩
theorem xm_117 : xokM xT xM 117 := ⟨by decide +kernel, rfl, by decide +kernel, by decide +kernel, by decide +kernel⟩
theorem xm_118 : xokM xT xM 118 := ⟨by decide +kernel, rfl, by decide +kernel, by decide +kernel, by decide +kernel⟩
theorem xm_119 : xokM xT xM 119 := ⟨by decide +kernel, rfl, by decide +kernel, by decide +kernel, by decide +kernel⟩
theorem xm_120 : xokM xT xM 120 := ⟨by decide +kernel, rfl, by decide +kernel, by decide +kernel, by decide +kernel⟩
theorem xm_121 : xokM xT xM 121 := ⟨by decide +kernel, rfl, by decide +kernel, by decide +kernel, by decide +kernel⟩
theorem xm_122 : xokM xT xM 122 := ⟨by decide +kernel, rfl, by decide +kernel, by decide +kernel, by decide +kernel⟩
theorem xm_123 : xokM xT xM 123 := ⟨by decide +kernel, rfl, by decide +kernel, by decide +kernel, by decide +kernel⟩
theorem xm_124 : xokM xT xM 124 := ⟨by decide +kernel, rfl, by decide +kernel, by decide +kernel, by decide +kernel⟩
theorem xm_125 : xokM xT xM 125 := ⟨by decide +kernel, rfl, by decide +kernel, by decide +kernel, by decide +kernel⟩
theorem xm_126 : xokM xT xM 126 := ⟨by decide +kernel, rfl, by decide +kernel, by decide +kernel, by decide +kernel⟩
theorem xm_127 : xokM xT xM 127 := ⟨by decide +kernel, rfl, by decide +kernel, by decide +kernel, by decide +kernel⟩
theorem xm_128 : xokM xT xM 128 := ⟨by decide +kernel, rfl, by decide +kernel, by decide +kernel, by decide +kernel⟩
theorem xm_129 : xokM xT xM 129 := ⟨by decide +kernel, rfl, by decide +kernel, by decide +kernel, by decide +kernel⟩
theorem xm_130 : xokM xT xM 130 := ⟨by decide +kernel, rfl, by decide +kernel, by decide +kernel, by decide +kernel⟩
theorem xm_131 : xokM xT xM 131 := ⟨by decide +kernel, rfl, by decide +kernel, by decide +kernel, by decide +kernel⟩
theorem xm_132 : xokM xT xM 132 := ⟨by decide +kernel, rfl, by decide +kernel, by decide +kernel, by decide +kernel⟩
theorem xm_133 : xokM xT xM 133 := ⟨by decide +kernel, rfl, by decide +kernel, by decide +kernel, by decide +kernel⟩
theorem xm_134 : xokM xT xM 134 := ⟨by decide +kernel, rfl, by decide +kernel, by decide +kernel, by decide +kernel⟩
theorem xm_135 : xokM xT xM 135 := ⟨by decide +kernel, rfl, by decide +kernel, by decide +kernel, by decide +kernel⟩
theorem xm_136 : xokM xT xM 136 := ⟨by decide +kernel, rfl, by decide +kernel, by decide +kernel, by decide +kernel⟩
theorem xm_137 : xokM xT xM 137 := ⟨by decide +kernel, rfl, by decide +kernel, by decide +kernel, by decide +kernel⟩
theorem xm_138 : xokM xT xM 138 := ⟨by decide +kernel, rfl, by decide +kernel, by decide +kernel, by decide +kernel⟩
theorem xm_139 : xokM xT xM 139 := ⟨by decide +kernel, ⟨_, rfl, Or.inl ⟨_, rfl⟩⟩, by decide +kernel, by decide +kernel, by decide +kernel⟩
theorem xm_140 : xokM xT xM 140 := ⟨by decide +kernel, ⟨_, rfl, Or.inl ⟨_, rfl⟩⟩, by decide +kernel, by decide +kernel, by decide +kernel⟩
theorem xm_141 : xokM xT xM 141 := ⟨by decide +kernel, ⟨_, rfl, Or.inl ⟨_, rfl⟩⟩, by decide +kernel, by decide +kernel, by decide +kernel⟩
theorem xm_142 : xokM xT xM 142 := ⟨by decide +kernel, ⟨_, rfl, Or.inl ⟨_, rfl⟩⟩, by decide +kernel, by decide +kernel, by decide +kernel⟩
theorem xm_143 : xokM xT xM 143 := ⟨by decide +kernel, rfl, by decide +kernel, by decide +kernel, by decide +kernel⟩
theorem xm_144 : xokM xT xM 144 := ⟨by decide +kernel, rfl, by decide +kernel, by decide +kernel, by decide +kernel⟩
theorem xm_145 : xokM xT xM 145 := ⟨by decide +kernel, ⟨_, rfl, Or.inl ⟨_, rfl⟩⟩, by decide +kernel, by decide +kernel, by decide +kernel⟩
theorem xm_146 : xokM xT xM 146 := ⟨by decide +kernel, rfl, by decide +kernel, by decide +kernel, by decide +kernel⟩
theorem xm_147 : xokM xT xM 147 := ⟨by decide +kernel, rfl, by decide +kernel, by decide +kernel, by decide +kernel⟩
theorem xm_148 : xokM xT xM 148 := ⟨by decide +kernel, rfl, by decide +kernel, by decide +kernel, by decide +kernel⟩
theorem xm_149 : xokM xT xM 149 := ⟨by decide +kernel, rfl, by decide +kernel, by decide +kernel, by decide +kernel⟩
theorem xm_150 : xokM xT xM 150 := ⟨by decide +kernel, rfl, by decide +kernel, by decide +kernel, by decide +kernel⟩
theorem xm_151 : xokM xT xM 151 := ⟨by decide +kernel, rfl, by decide +kernel, by decide +kernel, by decide +kernel⟩
theorem xm_152 : xokM xT xM 152 := ⟨by decide +kernel, rfl, by decide +kernel, by decide +kernel, by decide +kernel⟩
theorem xm_153 : xokM xT xM 153 := ⟨by decide +kernel, rfl, by decide +kernel, by decide +kernel, by decide +kernel⟩
theorem xm_154 : xokM xT xM 154 := ⟨by decide +kernel, rfl, by decide +kernel, by decide +kernel, by decide +kernel⟩
theorem xm_155 : xokM xT xM 155 := ⟨by decide +kernel, rfl, by decide +kernel, by decide +kernel, by decide +kernel⟩
theorem xm_156 : xokM xT xM 156 := ⟨by decide +kernel, rfl, by decide +kernel, by decide +kernel, by decide +kernel⟩
theorem xm_157 : xokM xT xM 157 := ⟨by decide +kernel, rfl, by decide +kernel, by decide +kernel, by decide +kernel⟩
theorem xm_158 : xokM xT xM 158 := ⟨by decide +kernel, rfl, by decide +kernel, by decide +kernel, by decide +kernel⟩
theorem xm_159 : xokM xT xM 159 := ⟨by decide +kernel, rfl, by decide +kernel, by decide +kernel, by decide +kernel⟩
theorem xm_160 : xokM xT xM 160 := ⟨by decide +kernel, rfl, by decide +kernel, by decide +kernel, by decide +kernel⟩
theorem xm_161 : xokM xT xM 161 := ⟨by decide +kernel, rfl, by decide +kernel, by decide +kernel, by decide +kernel⟩
theorem xm_162 : xokM xT xM 162 := ⟨by decide +kernel, ⟨_, rfl, Or.inl ⟨_, rfl⟩⟩, by decide +kernel, by decide +kernel, by decide +kernel⟩
theorem xm_163 : xokM xT xM 163 := ⟨by decide +kernel, rfl, by decide +kernel, by decide +kernel, by decide +kernel⟩
theorem xm_164 : xokM xT xM 164 := ⟨by decide +kernel, rfl, by decide +kernel, by decide +kernel, by decide +kernel⟩
theorem xm_165 : xokM xT xM 165 := ⟨by decide +kernel, rfl, by decide +kernel, by decide +kernel, by decide +kernel⟩
theorem xm_166 : xokM xT xM 166 := ⟨by decide +kernel, ⟨_, rfl, Or.inr ⟨_, rfl⟩⟩, by decide +kernel, by decide +kernel, by decide +kernel⟩
theorem xm_167 : xokM xT xM 167 := ⟨by decide +kernel, rfl, by decide +kernel, by decide +kernel, by decide +kernel⟩
theorem xm_168 : xokM xT xM 168 := ⟨by decide +kernel, rfl, by decide +kernel, by decide +kernel, by decide +kernel⟩
theorem xm_169 : xokM xT xM 169 := ⟨by decide +kernel, rfl, by decide +kernel, by decide +kernel, by decide +kernel⟩
theorem xm_170 : xokM xT xM 170 := ⟨by decide +kernel, rfl, by decide +kernel, by decide +kernel, by decide +kernel⟩
theorem xm_171 : xokM xT xM 171 := ⟨by decide +kernel, rfl, by decide +kernel, by decide +kernel, by decide +kernel⟩
theorem xm_172 : xokM xT xM 172 := ⟨by decide +kernel, rfl, by decide +kernel, by decide +kernel, by decide +kernel⟩
theorem xm_173 : xokM xT xM 173 := ⟨by decide +kernel, rfl, by decide +kernel, by decide +kernel, by decide +kernel⟩
theorem xm_174 : xokM xT xM 174 := ⟨by decide +kernel, rfl, by decide +kernel, by decide +kernel, by decide +kernel⟩
theorem xm_175 : xokM xT xM 175 := ⟨by decide +kernel, rfl, by decide +kernel, by decide +kernel, by decide +kernel⟩
theorem xm_176 : xokM xT xM 176 := ⟨by decide +kernel, rfl, by decide +kernel, by decide +kernel, by decide +kernel⟩
theorem xm_177 : xokM xT xM 177 := ⟨by decide +kernel, rfl, by decide +kernel, by decide +kernel, by decide +kernel⟩
theorem xm_178 : xokM xT xM 178 := ⟨by decide +kernel, rfl, by decide +kernel, by decide +kernel, by decide +kernel⟩
theorem xm_179 : xokM xT xM 179 := ⟨by decide +kernel, rfl, by decide +kernel, by decide +kernel, by decide +kernel⟩
theorem xm_180 : xokM xT xM 180 := ⟨by decide +kernel, rfl, by decide +kernel, by decide +kernel, by decide +kernel⟩
theorem xm_181 : xokM xT xM 181 := ⟨by decide +kernel, rfl, by decide +kernel, by decide +kernel, by decide +kernel⟩
theorem xm_182 : xokM xT xM 182 := ⟨by decide +kernel, rfl, by decide +kernel, by decide +kernel, by decide +kernel⟩
theorem xm_183 : xokM xT xM 183 := ⟨by decide +kernel, rfl, by decide +kernel, by decide +kernel, by decide +kernel⟩
theorem xm_184 : xokM xT xM 184 := ⟨by decide +kernel, rfl, by decide +kernel, by decide +kernel, by decide +kernel⟩
theorem xm_185 : xokM xT xM 185 := ⟨by decide +kernel, rfl, by decide +kernel, by decide +kernel, by decide +kernel⟩
theorem xm_186 : xokM xT xM 186 := ⟨by decide +kernel, rfl, by decide +kernel, by decide +kernel, by decide +kernel⟩
theorem xm_187 : xokM xT xM 187 := ⟨by decide +kernel, rfl, by decide +kernel, by decide +kernel, by decide +kernel⟩
theorem xm_188 : xokM xT xM 188 := ⟨by decide +kernel, rfl, by decide +kernel, by decide +kernel, by decide +kernel⟩
theorem xm_189 : xokM xT xM 189 := ⟨by decide +kernel, rfl, by decide +kernel, by decide +kernel, by decide +kernel⟩
theorem xm_190 : xokM xT xM 190 := ⟨by decide +kernel, rfl, by decide +kernel, by decide +kernel, by decide +kernel⟩
theorem xm_191 : xokM xT xM 191 := ⟨by decide +kernel, rfl, by decide +kernel, by decide +kernel, by decide +kernel⟩
theorem xm_192 : xokM xT xM 192 := ⟨by decide +kernel, rfl, by decide +kernel, by decide +kernel, by decide +kernel⟩
theorem xm_193 : xokM xT xM 193 := ⟨by decide +kernel, rfl, by decide +kernel, by decide +kernel, by decide +kernel⟩
theorem xm_194 : xokM xT xM 194 := ⟨by decide +kernel, rfl, by decide +kernel, by decide +kernel, by decide +kernel⟩
theorem xm_195 : xokM xT xM 195 := ⟨by decide +kernel, rfl, by decide +kernel, by decide +kernel, by decide +kernel⟩
theorem xm_196 : xokM xT xM 196 := ⟨by decide +kernel, rfl, by decide +kernel, by decide +kernel, by decide +kernel⟩
theorem xm_197 : xokM xT xM 197 := ⟨by decide +kernel, rfl, by decide +kernel, by decide +kernel, by decide +kernel⟩
theorem xm_198 : xokM xT xM 198 := ⟨by decide +kernel, rfl, by decide +kernel, by decide +kernel, by decide +kernel⟩
theorem xm_199 : xokM xT xM 199 := ⟨by decide +kernel, rfl, by decide +kernel, by decide +kernel, by decide +kernel⟩
theorem xm_200 : xokM xT xM 200 := ⟨by decide +kernel, rfl, by decide +kernel, by decide +kernel, by decide +kernel⟩
theorem xm_201 : xokM xT xM 201 := ⟨by decide +kernel, rfl, by decide +kernel, by decide +kernel, by decide +kernel⟩
theorem xm_202 : xokM xT xM 202 := ⟨by decide +kernel, rfl, by decide +kernel, by decide +kernel, by decide +kernel⟩
theorem xm_203 : xokM xT xM 203 := ⟨by decide +kernel, rfl, by decide +kernel, by decide +kernel, by decide +kernel⟩
theorem xm_204 : xokM xT xM 204 := ⟨by decide +kernel, rfl, by decide +kernel, by decide +kernel, by decide +kernel⟩
theorem xm_205 : xokM xT xM 205 := ⟨by decide +kernel, rfl, by decide +kernel, by decide +kernel, by decide +kernel⟩
theorem xm_206 : xokM xT xM 206 := ⟨by decide +kernel, rfl, by decide +kernel, by decide +kernel, by decide +kernel⟩
theorem xm_207 : xokM xT xM 207 := ⟨by decide +kernel, rfl, by decide +kernel, by decide +kernel, by decide +kernel⟩
theorem xm_208 : xokM xT xM 208 := ⟨by decide +kernel, rfl, by decide +kernel, by decide +kernel, by decide +kernel⟩
theorem xm_209 : xokM xT xM 209 := ⟨by decide +kernel, rfl, by decide +kernel, by decide +kernel, by decide +kernel⟩
theorem xm_210 : xokM xT xM 210 := ⟨by decide +kernel, rfl, by decide +kernel, by decide +kernel, by decide +kernel⟩
theorem xm_211 : xokM xT xM 211 := ⟨by decide +kernel, rfl, by decide +kernel, by decide +kernel, by decide +kernel⟩
theorem xm_212 : xokM xT xM 212 := ⟨by decide +kernel, rfl, by decide +kernel, by decide +kernel, by decide +kernel⟩
theorem xm_213 : xokM xT xM 213 := ⟨by decide +kernel, rfl, by decide +kernel, by decide +kernel, by decide +kernel⟩
theorem xm_214 : xokM xT xM 214 := ⟨by decide +kernel, rfl, by decide +kernel, by decide +kernel, by decide +kernel⟩
theorem xm_215 : xokM xT xM 215 := ⟨by decide +kernel, rfl, by decide +kernel, by decide +kernel, by decide +kernel⟩
theorem xm_216 : xokM xT xM 216 := ⟨by decide +kernel, rfl, by decide +kernel, by decide +kernel, by decide +kernel⟩
theorem xm_217 : xokM xT xM 217 := ⟨by decide +kernel, rfl, by decide +kernel, by decide +kernel, by decide +kernel⟩
theorem xm_218 : xokM xT xM 218 := ⟨by decide +kernel, rfl, by decide +kernel, by decide +kernel, by decide +kernel⟩
theorem xm_219 : xokM xT xM 219 := ⟨by decide +kernel, rfl, by decide +kernel, by decide +kernel, by decide +kernel⟩
theorem xm_220 : xokM xT xM 220 := ⟨by decide +kernel, rfl, by decide +kernel, by decide +kernel, by decide +kernel⟩
theorem xm_221 : xokM xT xM 221 := ⟨by decide +kernel, rfl, by decide +kernel, by decide +kernel, by decide +kernel⟩
theorem xm_222 : xokM xT xM 222 := ⟨by decide +kernel, rfl, by decide +kernel, by decide +kernel, by decide +kernel⟩
theorem xm_223 : xokM xT xM 223 := ⟨by decide +kernel, rfl, by decide +kernel, by decide +kernel, by decide +kernel⟩
theorem xm_224 : xokM xT xM 224 := ⟨by decide +kernel, rfl, by decide +kernel, by decide +kernel, by decide +kernel⟩
theorem xm_225 : xokM xT xM 225 := ⟨by decide +kernel, rfl, by decide +kernel, by decide +kernel, by decide +kernel⟩
theorem xm_226 : xokM xT xM 226 := ⟨by decide +kernel, rfl, by decide +kernel, by decide +kernel, by decide +kernel⟩
theorem xm_227 : xokM xT xM 227 := ⟨by decide +kernel, rfl, by decide +kernel, by decide +kernel, by decide +kernel⟩
theorem xm_228 : xokM xT xM 228 := ⟨by decide +kernel, rfl, by decide +kernel, by decide +kernel, by decide +kernel⟩
theorem xm_229 : xokM xT xM 229 := ⟨by decide +kernel, rfl, by decide +kernel, by decide +kernel, by decide +kernel⟩
theorem xm_230 : xokM xT xM 230 := ⟨by decide +kernel, rfl, by decide +kernel, by decide +kernel, by decide +kernel⟩
theorem xm_231 : xokM xT xM 231 := ⟨by decide +kernel, rfl, by decide +kernel, by decide +kernel, by decide +kernel⟩
theorem xm_232 : xokM xT xM 232 := ⟨by decide +kernel, rfl, by decide +kernel, by decide +kernel, by decide +kernel⟩
theorem xm_233 : xokM xT xM 233 := ⟨by decide +kernel, rfl, by decide +kernel, by decide +kernel, by decide +kernel⟩
theorem xm_234 : xokM xT xM 234 := ⟨by decide +kernel, rfl, by decide +kernel, by decide +kernel, by decide +kernel⟩
theorem xm_235 : xokM xT xM 235 := ⟨by decide +kernel, rfl, by decide +kernel, by decide +kernel, by decide +kernel⟩
theorem xm_236 : xokM xT xM 236 := ⟨by decide +kernel, rfl, by decide +kernel, by decide +kernel, by decide +kernel⟩
theorem xm_237 : xokM xT xM 237 := ⟨by decide +kernel, rfl, by decide +kernel, by decide +kernel, by decide +kernel⟩
theorem xm_238 : xokM xT xM 238 := ⟨by decide +kernel, rfl, by decide +kernel, by decide +kernel, by decide +kernel⟩
theorem xm_239 : xokM xT xM 239 := ⟨by decide +kernel, rfl, by decide +kernel, by decide +kernel, by decide +kernel⟩
theorem xm_240 : xokM xT xM 240 := ⟨by decide +kernel, rfl, by decide +kernel, by decide +kernel, by decide +kernel⟩
theorem xm_241 : xokM xT xM 241 := ⟨by decide +kernel, rfl, by decide +kernel, by decide +kernel, by decide +kernel⟩
theorem xm_242 : xokM xT xM 242 := ⟨by decide +kernel, rfl, by decide +kernel, by decide +kernel, by decide +kernel⟩
theorem xm_243 : xokM xT xM 243 := ⟨by decide +kernel, rfl, by decide +kernel, by decide +kernel, by decide +kernel⟩
theorem xm_244 : xokM xT xM 244 := ⟨by decide +kernel, rfl, by decide +kernel, by decide +kernel, by decide +kernel⟩
theorem xm_245 : xokM xT xM 245 := ⟨by decide +kernel, rfl, by decide +kernel, by decide +kernel, by decide +kernel⟩
theorem xm_246 : xokM xT xM 246 := ⟨by decide +kernel, rfl, by decide +kernel, by decide +kernel, by decide +kernel⟩
theorem xm_247 : xokM xT xM 247 := ⟨by decide +kernel, rfl, by decide +kernel, by decide +kernel, by decide +kernel⟩
theorem xm_248 : xokM xT xM 248 := ⟨by decide +kernel, rfl, by decide +kernel, by decide +kernel, by decide +kernel⟩
theorem xm_249 : xokM xT xM 249 := ⟨by decide +kernel, rfl, by decide +kernel, by decide +kernel, by decide +kernel⟩
theorem xm_250 : xokM xT xM 250 := ⟨by decide +kernel, rfl, by decide +kernel, by decide +kernel, by decide +kernel⟩
theorem xm_251 : xokM xT xM 251 := ⟨by decide +kernel, rfl, by decide +kernel, by decide +kernel, by decide +kernel⟩
theorem xm_252 : xokM xT xM 252 := ⟨by decide +kernel, rfl, by decide +kernel, by decide +kernel, by decide +kernel⟩
theorem xm_253 : xokM xT xM 253 := ⟨by decide +kernel, rfl, by decide +kernel, by decide +kernel, by decide +kernel⟩
theorem xm_254 : xokM xT xM 254 := ⟨by decide +kernel, rfl, by decide +kernel, by decide +kernel, by decide +kernel⟩
theorem xm_255 : xokM xT xM 255 := ⟨by decide +kernel, rfl, by decide +kernel, by decide +kernel, by decide +kernel⟩
theorem xm_256 : xokM xT xM 256 := ⟨by decide +kernel, rfl, by decide +kernel, by decide +kernel, by decide +kernel⟩
theorem xm_257 : xokM xT xM 257 := ⟨by decide +kernel, rfl, by decide +kernel, by decide +kernel, by decide +kernel⟩
theorem xm_258 : xokM xT xM 258 := ⟨by decide +kernel, rfl, by decide +kernel, by decide +kernel, by decide +kernel⟩
theorem xm_259 : xokM xT xM 259 := ⟨by decide +kernel, rfl, by decide +kernel, by decide +kernel, by decide +kernel⟩
theorem xm_260 : xokM xT xM 260 := ⟨by decide +kernel, rfl, by decide +kernel, by decide +kernel, by decide +kernel⟩
theorem xm_261 : xokM xT xM 261 := ⟨by decide +kernel, rfl, by decide +kernel, by decide +kernel, by decide +kernel⟩
theorem xm_262 : xokM xT xM 262 := ⟨by decide +kernel, rfl, by decide +kernel, by decide +kernel, by decide +kernel⟩
theorem xm_263 : xokM xT xM 263 := ⟨by decide +kernel, rfl, by decide +kernel, by decide +kernel, by decide +kernel⟩
theorem xm_264 : xokM xT xM 264 := ⟨by decide +kernel, rfl, by decide +kernel, by decide +kernel, by decide +kernel⟩
theorem xm_265 : xokM xT xM 265 := ⟨by decide +kernel, rfl, by decide +kernel, by decide +kernel, by decide +kernel⟩
theorem xm_266 : xokM xT xM 266 := ⟨by decide +kernel, rfl, by decide +kernel, by decide +kernel, by decide +kernel⟩
theorem xm_267 : xokM xT xM 267 := ⟨by decide +kernel, rfl, by decide +kernel, by decide +kernel, by decide +kernel⟩
theorem xm_268 : xokM xT xM 268 := ⟨by decide +kernel, rfl, by decide +kernel, by decide +kernel, by decide +kernel⟩
theorem xm_269 : xokM xT xM 269 := ⟨by decide +kernel, rfl, by decide +kernel, by decide +kernel, by decide +kernel⟩
theorem xm_270 : xokM xT xM 270 := ⟨by decide +kernel, rfl, by decide +kernel, by decide +kernel, by decide +kernel⟩
theorem xm_271 : xokM xT xM 271 := ⟨by decide +kernel, rfl, by decide +kernel, by decide +kernel, by decide +kernel⟩
theorem xm_272 : xokM xT xM 272 := ⟨by decide +kernel, rfl, by decide +kernel, by decide +kernel, by decide +kernel⟩
theorem xm_273 : xokM xT xM 273 := ⟨by decide +kernel, rfl, by decide +kernel, by decide +kernel, by decide +kernel⟩
theorem xm_274 : xokM xT xM 274 := ⟨by decide +kernel, rfl, by decide +kernel, by decide +kernel, by decide +kernel⟩
theorem xm_275 : xokM xT xM 275 := ⟨by decide +kernel, rfl, by decide +kernel, by decide +kernel, by decide +kernel⟩
theorem xm_276 : xokM xT xM 276 := ⟨by decide +kernel, rfl, by decide +kernel, by decide +kernel, by decide +kernel⟩
theorem xm_277 : xokM xT xM 277 := ⟨by decide +kernel, rfl, by decide +kernel, by decide +kernel, by decide +kernel⟩
theorem xm_278 : xokM xT xM 278 := ⟨by decide +kernel, rfl, by decide +kernel, by decide +kernel, by decide +kernel⟩
theorem xm_279 : xokM xT xM 279 := ⟨by decide +kernel, rfl, by decide +kernel, by decide +kernel, by decide +kernel⟩
theorem xm_280 : xokM xT xM 280 := ⟨by decide +kernel, rfl, by decide +kernel, by decide +kernel, by decide +kernel⟩
theorem xm_281 : xokM xT xM 281 := ⟨by decide +kernel, rfl, by decide +kernel, by decide +kernel, by decide +kernel⟩
theorem xm_282 : xokM xT xM 282 := ⟨by decide +kernel, rfl, by decide +kernel, by decide +kernel, by decide +kernel⟩
theorem xm_283 : xokM xT xM 283 := ⟨by decide +kernel, rfl, by decide +kernel, by decide +kernel, by decide +kernel⟩
theorem xm_284 : xokM xT xM 284 := ⟨by decide +kernel, rfl, by decide +kernel, by decide +kernel, by decide +kernel⟩
theorem xm_285 : xokM xT xM 285 := ⟨by decide +kernel, rfl, by decide +kernel, by decide +kernel, by decide +kernel⟩
theorem xm_286 : xokM xT xM 286 := ⟨by decide +kernel, rfl, by decide +kernel, by decide +kernel, by decide +kernel⟩
theorem xm_287 : xokM xT xM 287 := ⟨by decide +kernel, rfl, by decide +kernel, by decide +kernel, by decide +kernel⟩
theorem xm_288 : xokM xT xM 288 := ⟨by decide +kernel, rfl, by decide +kernel, by decide +kernel, by decide +kernel⟩
theorem xm_289 : xokM xT xM 289 := ⟨by decide +kernel, rfl, by decide +kernel, by decide +kernel, by decide +kernel⟩
theorem xm_290 : xokM xT xM 290 := ⟨by decide +kernel, rfl, by decide +kernel, by decide +kernel, by decide +kernel⟩
theorem xm_291 : xokM xT xM 291 := ⟨by decide +kernel, rfl, by decide +kernel, by decide +kernel, by decide +kernel⟩
theorem xm_292 : xokM xT xM 292 := ⟨by decide +kernel, rfl, by decide +kernel, by decide +kernel, by decide +kernel⟩
theorem xm_293 : xokM xT xM 293 := ⟨by decide +kernel, ⟨_, rfl, Or.inl ⟨_, rfl⟩⟩, by decide +kernel, by decide +kernel, by decide +kernel⟩
theorem xm_294 : xokM xT xM 294 := ⟨by decide +kernel, ⟨_, rfl, Or.inl ⟨_, rfl⟩⟩, by decide +kernel, by decide +kernel, by decide +kernel⟩
theorem xm_295 : xokM xT xM 295 := ⟨by decide +kernel, rfl, by decide +kernel, by decide +kernel, by decide +kernel⟩
theorem xm_296 : xokM xT xM 296 := ⟨by decide +kernel, rfl, by decide +kernel, by decide +kernel, by decide +kernel⟩
theorem xm_297 : xokM xT xM 297 := ⟨by decide +kernel, rfl, by decide +kernel, by decide +kernel, by decide +kernel⟩
theorem xm_298 : xokM xT xM 298 := ⟨by decide +kernel, rfl, by decide +kernel, by decide +kernel, by decide +kernel⟩
theorem xm_299 : xokM xT xM 299 := ⟨by decide +kernel, rfl, by decide +kernel, by decide +kernel, by decide +kernel⟩
theorem xm_300 : xokM xT xM 300 := ⟨by decide +kernel, rfl, by decide +kernel, by decide +kernel, by decide +kernel⟩
theorem xm_301 : xokM xT xM 301 := ⟨by decide +kernel, rfl, by decide +kernel, by decide +kernel, by decide +kernel⟩
theorem xm_302 : xokM xT xM 302 := ⟨by decide +kernel, rfl, by decide +kernel, by decide +kernel, by decide +kernel⟩
theorem xm_303 : xokM xT xM 303 := ⟨by decide +kernel, rfl, by decide +kernel, by decide +kernel, by decide +kernel⟩
theorem xm_304 : xokM xT xM 304 := ⟨by decide +kernel, ⟨_, rfl, Or.inl ⟨_, rfl⟩⟩, by decide +kernel, by decide +kernel, by decide +kernel⟩
theorem xm_305 : xokM xT xM 305 := ⟨by decide +kernel, ⟨_, rfl, Or.inl ⟨_, rfl⟩⟩, by decide +kernel, by decide +kernel, by decide +kernel⟩
theorem xm_306 : xokM xT xM 306 := ⟨by decide +kernel, rfl, by decide +kernel, by decide +kernel, by decide +kernel⟩
theorem xm_307 : xokM xT xM 307 := ⟨by decide +kernel, rfl, by decide +kernel, by decide +kernel, by decide +kernel⟩
theorem xm_308 : xokM xT xM 308 := ⟨by decide +kernel, rfl, by decide +kernel, by decide +kernel, by decide +kernel⟩
theorem xm_309 : xokM xT xM 309 := ⟨by decide +kernel, rfl, by decide +kernel, by decide +kernel, by decide +kernel⟩
theorem xm_310 : xokM xT xM 310 := ⟨by decide +kernel, ⟨_, rfl, Or.inr ⟨_, rfl⟩⟩, by decide +kernel, by decide +kernel, by decide +kernel⟩
theorem xm_311 : xokM xT xM 311 := ⟨by decide +kernel, rfl, by decide +kernel, by decide +kernel, by decide +kernel⟩
theorem xm_312 : xokM xT xM 312 := ⟨by decide +kernel, rfl, by decide +kernel, by decide +kernel, by decide +kernel⟩
theorem xm_313 : xokM xT xM 313 := ⟨by decide +kernel, rfl, by decide +kernel, by decide +kernel, by decide +kernel⟩
theorem xm_314 : xokM xT xM 314 := ⟨by decide +kernel, rfl, by decide +kernel, by decide +kernel, by decide +kernel⟩
theorem xm_315 : xokM xT xM 315 := ⟨by decide +kernel, rfl, by decide +kernel, by decide +kernel, by decide +kernel⟩
theorem xm_316 : xokM xT xM 316 := ⟨by decide +kernel, rfl, by decide +kernel, by decide +kernel, by decide +kernel⟩
theorem xm_317 : xokM xT xM 317 := ⟨by decide +kernel, ⟨_, rfl, Or.inl ⟨_, rfl⟩⟩, by decide +kernel, by decide +kernel, by decide +kernel⟩
theorem xm_318 : xokM xT xM 318 := ⟨by decide +kernel, ⟨_, rfl, Or.inl ⟨_, rfl⟩⟩, by decide +kernel, by decide +kernel, by decide +kernel⟩
theorem xm_319 : xokM xT xM 319 := ⟨by decide +kernel, ⟨_, rfl, Or.inl ⟨_, rfl⟩⟩, by decide +kernel, by decide +kernel, by decide +kernel⟩
theorem xm_320 : xokM xT xM 320 := ⟨by decide +kernel, rfl, by decide +kernel, by decide +kernel, by decide +kernel⟩
theorem xm_321 : xokM xT xM 321 := ⟨by decide +kernel, rfl, by decide +kernel, by decide +kernel, by decide +kernel⟩
theorem xm_322 : xokM xT xM 322 := ⟨by decide +kernel, ⟨_, rfl, Or.inr ⟨_, rfl⟩⟩, by decide +kernel, by decide +kernel, by decide +kernel⟩
theorem xm_323 : xokM xT xM 323 := ⟨by decide +kernel, rfl, by decide +kernel, by decide +kernel, by decide +kernel⟩
theorem xm_324 : xokM xT xM 324 := ⟨by decide +kernel, rfl, by decide +kernel, by decide +kernel, by decide +kernel⟩
theorem xm_325 : xokM xT xM 325 := ⟨by decide +kernel, rfl, by decide +kernel, by decide +kernel, by decide +kernel⟩
theorem xm_326 : xokM xT xM 326 := ⟨by decide +kernel, ⟨_, rfl, Or.inr ⟨_, rfl⟩⟩, by decide +kernel, by decide +kernel, by decide +kernel⟩
theorem xm_327 : xokM xT xM 327 := ⟨by decide +kernel, ⟨_, rfl, Or.inr ⟨_, rfl⟩⟩, by decide +kernel, by decide +kernel, by decide +kernel⟩
theorem xm_328 : xokM xT xM 328 := ⟨by decide +kernel, rfl, by decide +kernel, by decide +kernel, by decide +kernel⟩
set_option maxRecDepth 100000 in
theorem xms_c0 : xN (fun i => xokM xT xM i) 45 0 := ⟨xm_0, ⟨xm_1, ⟨xm_2, ⟨xm_3, ⟨xm_4, ⟨xm_5, ⟨xm_6, ⟨xm_7, ⟨xm_8, ⟨xm_9, ⟨xm_10, ⟨xm_11, ⟨xm_12, ⟨xm_13, ⟨xm_14, ⟨xm_15, ⟨xm_16, ⟨xm_17, ⟨xm_18, ⟨xm_19, ⟨xm_20, ⟨xm_21, ⟨xm_22, ⟨xm_23, ⟨xm_24, ⟨xm_25, ⟨xm_26, ⟨xm_27, ⟨xm_28, ⟨xm_29, ⟨xm_30, ⟨xm_31, ⟨xm_32, ⟨xm_33, ⟨xm_34, ⟨xm_35, ⟨xm_36, ⟨xm_37, ⟨xm_38, ⟨xm_39, ⟨xm_40, ⟨xm_41, ⟨xm_42, ⟨xm_43, ⟨xm_44, trivial⟩⟩⟩⟩⟩⟩⟩⟩⟩⟩⟩⟩⟩⟩⟩⟩⟩⟩⟩⟩⟩⟩⟩⟩⟩⟩⟩⟩⟩⟩⟩⟩⟩⟩⟩⟩⟩⟩⟩⟩⟩⟩⟩⟩⟩
set_option maxRecDepth 100000 in
theorem xms_c45 : xN (fun i => xokM xT xM i) 45 45 := ⟨xm_45, ⟨xm_46, ⟨xm_47, ⟨xm_48, ⟨xm_49, ⟨xm_50, ⟨xm_51, ⟨xm_52, ⟨xm_53, ⟨xm_54, ⟨xm_55, ⟨xm_56, ⟨xm_57, ⟨xm_58, ⟨xm_59, ⟨xm_60, ⟨xm_61, ⟨xm_62, ⟨xm_63, ⟨xm_64, ⟨xm_65, ⟨xm_66, ⟨xm_67, ⟨xm_68, ⟨xm_69, ⟨xm_70, ⟨xm_71, ⟨xm_72, ⟨xm_73, ⟨xm_74, ⟨xm_75, ⟨xm_76, ⟨xm_77, ⟨xm_78, ⟨xm_79, ⟨xm_80, ⟨xm_81, ⟨xm_82, ⟨xm_83, ⟨xm_84, ⟨xm_85, ⟨xm_86, ⟨xm_87, ⟨xm_88, ⟨xm_89, trivial⟩⟩⟩⟩⟩⟩⟩⟩⟩⟩⟩⟩⟩⟩⟩⟩⟩⟩⟩⟩⟩⟩⟩⟩⟩⟩⟩⟩⟩⟩⟩⟩⟩⟩⟩⟩⟩⟩⟩⟩⟩⟩⟩⟩⟩
set_option maxRecDepth 100000 in
theorem xms_c90 : xN (fun i => xokM xT xM i) 45 90 := ⟨xm_90, ⟨xm_91, ⟨xm_92, ⟨xm_93, ⟨xm_94, ⟨xm_95, ⟨xm_96, ⟨xm_97, ⟨xm_98, ⟨xm_99, ⟨xm_100, ⟨xm_101, ⟨xm_102, ⟨xm_103, ⟨xm_104, ⟨xm_105, ⟨xm_106, ⟨xm_107, ⟨xm_108, ⟨xm_109, ⟨xm_110, ⟨xm_111, ⟨xm_112, ⟨xm_113, ⟨xm_114, ⟨xm_115, ⟨xm_116, ⟨xm_117, ⟨xm_118, ⟨xm_119, ⟨xm_120, ⟨xm_121, ⟨xm_122, ⟨xm_123, ⟨xm_124, ⟨xm_125, ⟨xm_126, ⟨xm_127, ⟨xm_128, ⟨xm_129, ⟨xm_130, ⟨xm_131, ⟨xm_132, ⟨xm_133, ⟨xm_134, trivial⟩⟩⟩⟩⟩⟩⟩⟩⟩⟩⟩⟩⟩⟩⟩⟩⟩⟩⟩⟩⟩⟩⟩⟩⟩⟩⟩⟩⟩⟩⟩⟩⟩⟩⟩⟩⟩⟩⟩⟩⟩⟩⟩⟩⟩
set_option maxRecDepth 100000 in
theorem xms_c135 : xN (fun i => xokM xT xM i) 45 135 := ⟨xm_135, ⟨xm_136, ⟨xm_137, ⟨xm_138, ⟨xm_139, ⟨xm_140, ⟨xm_141, ⟨xm_142, ⟨xm_143, ⟨xm_144, ⟨xm_145, ⟨xm_146, ⟨xm_147, ⟨xm_148, ⟨xm_149, ⟨xm_150, ⟨xm_151, ⟨xm_152, ⟨xm_153, ⟨xm_154, ⟨xm_155, ⟨xm_156, ⟨xm_157, ⟨xm_158, ⟨xm_159, ⟨xm_160, ⟨xm_161, ⟨xm_162, ⟨xm_163, ⟨xm_164, ⟨xm_165, ⟨xm_166, ⟨xm_167, ⟨xm_168, ⟨xm_169, ⟨xm_170, ⟨xm_171, ⟨xm_172, ⟨xm_173, ⟨xm_174, ⟨xm_175, ⟨xm_176, ⟨xm_177, ⟨xm_178, ⟨xm_179, trivial⟩⟩⟩⟩⟩⟩⟩⟩⟩⟩⟩⟩⟩⟩⟩⟩⟩⟩⟩⟩⟩⟩⟩⟩⟩⟩⟩⟩⟩⟩⟩⟩⟩⟩⟩⟩⟩⟩⟩⟩⟩⟩⟩⟩⟩
set_option maxRecDepth 100000 in
theorem xms_c180 : xN (fun i => xokM xT xM i) 45 180 := ⟨xm_180, ⟨xm_181, ⟨xm_182, ⟨xm_183, ⟨xm_184, ⟨xm_185, ⟨xm_186, ⟨xm_187, ⟨xm_188, ⟨xm_189, ⟨xm_190, ⟨xm_191, ⟨xm_192, ⟨xm_193, ⟨xm_194, ⟨xm_195, ⟨xm_196, ⟨xm_197, ⟨xm_198, ⟨xm_199, ⟨xm_200, ⟨xm_201, ⟨xm_202, ⟨xm_203, ⟨xm_204, ⟨xm_205, ⟨xm_206, ⟨xm_207, ⟨xm_208, ⟨xm_209, ⟨xm_210, ⟨xm_211, ⟨xm_212, ⟨xm_213, ⟨xm_214, ⟨xm_215, ⟨xm_216, ⟨xm_217, ⟨xm_218, ⟨xm_219, ⟨xm_220, ⟨xm_221, ⟨xm_222, ⟨xm_223, ⟨xm_224, trivial⟩⟩⟩⟩⟩⟩⟩⟩⟩⟩⟩⟩⟩⟩⟩⟩⟩⟩⟩⟩⟩⟩⟩⟩⟩⟩⟩⟩⟩⟩⟩⟩⟩⟩⟩⟩⟩⟩⟩⟩⟩⟩⟩⟩⟩
set_option maxRecDepth 100000 in
theorem xms_c225 : xN (fun i => xokM xT xM i) 45 225 := ⟨xm_225, ⟨xm_226, ⟨xm_227, ⟨xm_228, ⟨xm_229, ⟨xm_230, ⟨xm_231, ⟨xm_232, ⟨xm_233, ⟨xm_234, ⟨xm_235, ⟨xm_236, ⟨xm_237, ⟨xm_238, ⟨xm_239, ⟨xm_240, ⟨xm_241, ⟨xm_242, ⟨xm_243, ⟨xm_244, ⟨xm_245, ⟨xm_246, ⟨xm_247, ⟨xm_248, ⟨xm_249, ⟨xm_250, ⟨xm_251, ⟨xm_252, ⟨xm_253, ⟨xm_254, ⟨xm_255, ⟨xm_256, ⟨xm_257, ⟨xm_258, ⟨xm_259, ⟨xm_260, ⟨xm_261, ⟨xm_262, ⟨xm_263, ⟨xm_264, ⟨xm_265, ⟨xm_266, ⟨xm_267, ⟨xm_268, ⟨xm_269, trivial⟩⟩⟩⟩⟩⟩⟩⟩⟩⟩⟩⟩⟩⟩⟩⟩⟩⟩⟩⟩⟩⟩⟩⟩⟩⟩⟩⟩⟩⟩⟩⟩⟩⟩⟩⟩⟩⟩⟩⟩⟩⟩⟩⟩⟩
set_option maxRecDepth 100000 in
theorem xms_c270 : xN (fun i => xokM xT xM i) 45 270 := ⟨xm_270, ⟨xm_271, ⟨xm_272, ⟨xm_273, ⟨xm_274, ⟨xm_275, ⟨xm_276, ⟨xm_277, ⟨xm_278, ⟨xm_279, ⟨xm_280, ⟨xm_281, ⟨xm_282, ⟨xm_283, ⟨xm_284, ⟨xm_285, ⟨xm_286, ⟨xm_287, ⟨xm_288, ⟨xm_289, ⟨xm_290, ⟨xm_291, ⟨xm_292, ⟨xm_293, ⟨xm_294, ⟨xm_295, ⟨xm_296, ⟨xm_297, ⟨xm_298, ⟨xm_299, ⟨xm_300, ⟨xm_301, ⟨xm_302, ⟨xm_303, ⟨xm_304, ⟨xm_305, ⟨xm_306, ⟨xm_307, ⟨xm_308, ⟨xm_309, ⟨xm_310, ⟨xm_311, ⟨xm_312, ⟨xm_313, ⟨xm_314, trivial⟩⟩⟩⟩⟩⟩⟩⟩⟩⟩⟩⟩⟩⟩⟩⟩⟩⟩⟩⟩⟩⟩⟩⟩⟩⟩⟩⟩⟩⟩⟩⟩⟩⟩⟩⟩⟩⟩⟩⟩⟩⟩⟩⟩⟩
set_option maxRecDepth 100000 in
theorem xms_c315 : xN (fun i => xokM xT xM i) 14 315 := ⟨xm_315, ⟨xm_316, ⟨xm_317, ⟨xm_318, ⟨xm_319, ⟨xm_320, ⟨xm_321, ⟨xm_322, ⟨xm_323, ⟨xm_324, ⟨xm_325, ⟨xm_326, ⟨xm_327, ⟨xm_328, trivial⟩⟩⟩⟩⟩⟩⟩⟩⟩⟩⟩⟩⟩⟩
theorem xms {i : Nat} (hi : i < 329) : xokM xT xM i := by
  by_cases h0 : i < 45
  · exact xN_at 45 0 (xms_c0) i (by omega) (by omega)
  by_cases h45 : i < 90
  · exact xN_at 45 45 (xms_c45) i (by omega) (by omega)
  by_cases h90 : i < 135
  · exact xN_at 45 90 (xms_c90) i (by omega) (by omega)
  by_cases h135 : i < 180
  · exact xN_at 45 135 (xms_c135) i (by omega) (by omega)
  by_cases h180 : i < 225
  · exact xN_at 45 180 (xms_c180) i (by omega) (by omega)
  by_cases h225 : i < 270
  · exact xN_at 45 225 (xms_c225) i (by omega) (by omega)
  by_cases h270 : i < 315
  · exact xN_at 45 270 (xms_c270) i (by omega) (by omega)
  exact xN_at 14 315 (xms_c315) i (by omega) (by omega)
set_option maxRecDepth 100000 in
theorem xks_c0 : xN (fun i => xokK Gw (xM.1 i).cls (xT.2.2 i) (xM.2.2.2 i)) 45 0 := ⟨trivial, ⟨trivial, ⟨trivial, ⟨trivial, ⟨trivial, ⟨trivial, ⟨trivial, ⟨trivial, ⟨trivial, ⟨trivial, ⟨trivial, ⟨trivial, ⟨trivial, ⟨trivial, ⟨trivial, ⟨trivial, ⟨trivial, ⟨trivial, ⟨trivial, ⟨trivial, ⟨trivial, ⟨trivial, ⟨trivial, ⟨trivial, ⟨trivial, ⟨trivial, ⟨trivial, ⟨trivial, ⟨trivial, ⟨trivial, ⟨trivial, ⟨trivial, ⟨trivial, ⟨trivial, ⟨trivial, ⟨trivial, ⟨trivial, ⟨trivial, ⟨trivial, ⟨trivial, ⟨trivial, ⟨trivial, ⟨trivial, ⟨trivial, ⟨trivial, trivial⟩⟩⟩⟩⟩⟩⟩⟩⟩⟩⟩⟩⟩⟩⟩⟩⟩⟩⟩⟩⟩⟩⟩⟩⟩⟩⟩⟩⟩⟩⟩⟩⟩⟩⟩⟩⟩⟩⟩⟩⟩⟩⟩⟩⟩
set_option maxRecDepth 100000 in
theorem xks_c45 : xN (fun i => xokK Gw (xM.1 i).cls (xT.2.2 i) (xM.2.2.2 i)) 45 45 := ⟨trivial, ⟨trivial, ⟨trivial, ⟨trivial, ⟨trivial, ⟨trivial, ⟨trivial, ⟨trivial, ⟨trivial, ⟨trivial, ⟨trivial, ⟨trivial, ⟨trivial, ⟨trivial, ⟨trivial, ⟨trivial, ⟨trivial, ⟨trivial, ⟨trivial, ⟨trivial, ⟨trivial, ⟨trivial, ⟨trivial, ⟨trivial, ⟨trivial, ⟨trivial, ⟨trivial, ⟨trivial, ⟨trivial, ⟨trivial, ⟨trivial, ⟨trivial, ⟨trivial, ⟨trivial, ⟨trivial, ⟨trivial, ⟨trivial, ⟨trivial, ⟨trivial, ⟨trivial, ⟨trivial, ⟨trivial, ⟨trivial, ⟨trivial, ⟨trivial, trivial⟩⟩⟩⟩⟩⟩⟩⟩⟩⟩⟩⟩⟩⟩⟩⟩⟩⟩⟩⟩⟩⟩⟩⟩⟩⟩⟩⟩⟩⟩⟩⟩⟩⟩⟩⟩⟩⟩⟩⟩⟩⟩⟩⟩⟩
set_option maxRecDepth 100000 in
theorem xks_c90 : xN (fun i => xokK Gw (xM.1 i).cls (xT.2.2 i) (xM.2.2.2 i)) 45 90 := ⟨trivial, ⟨trivial, ⟨trivial, ⟨trivial, ⟨trivial, ⟨trivial, ⟨trivial, ⟨trivial, ⟨trivial, ⟨trivial, ⟨trivial, ⟨trivial, ⟨trivial, ⟨trivial, ⟨trivial, ⟨trivial, ⟨trivial, ⟨trivial, ⟨trivial, ⟨trivial, ⟨trivial, ⟨trivial, ⟨trivial, ⟨trivial, ⟨trivial, ⟨trivial, ⟨trivial, ⟨trivial, ⟨trivial, ⟨trivial, ⟨trivial, ⟨trivial, ⟨trivial, ⟨trivial, ⟨trivial, ⟨trivial, ⟨trivial, ⟨trivial, ⟨trivial, ⟨trivial, ⟨trivial, ⟨trivial, ⟨trivial, ⟨trivial, ⟨trivial, trivial⟩⟩⟩⟩⟩⟩⟩⟩⟩⟩⟩⟩⟩⟩⟩⟩⟩⟩⟩⟩⟩⟩⟩⟩⟩⟩⟩⟩⟩⟩⟩⟩⟩⟩⟩⟩⟩⟩⟩⟩⟩⟩⟩⟩⟩
set_option maxRecDepth 100000 in
theorem xks_c135 : xN (fun i => xokK Gw (xM.1 i).cls (xT.2.2 i) (xM.2.2.2 i)) 45 135 := ⟨trivial, ⟨trivial, ⟨trivial, ⟨trivial, ⟨trivial, ⟨trivial, ⟨trivial, ⟨trivial, ⟨trivial, ⟨trivial, ⟨trivial, ⟨trivial, ⟨trivial, ⟨trivial, ⟨trivial, ⟨trivial, ⟨trivial, ⟨trivial, ⟨trivial, ⟨trivial, ⟨trivial, ⟨trivial, ⟨trivial, ⟨trivial, ⟨trivial, ⟨trivial, ⟨trivial, ⟨trivial, ⟨hk_163, ⟨hk_164, ⟨trivial, ⟨trivial, ⟨trivial, ⟨hk_168, ⟨trivial, ⟨trivial, ⟨trivial, ⟨trivial, ⟨trivial, ⟨trivial, ⟨trivial, ⟨trivial, ⟨trivial, ⟨trivial, ⟨trivial, trivial⟩⟩⟩⟩⟩⟩⟩⟩⟩⟩⟩⟩⟩⟩⟩⟩⟩⟩⟩⟩⟩⟩⟩⟩⟩⟩⟩⟩⟩⟩⟩⟩⟩⟩⟩⟩⟩⟩⟩⟩⟩⟩⟩⟩⟩
set_option maxRecDepth 100000 in
theorem xks_c180 : xN (fun i => xokK Gw (xM.1 i).cls (xT.2.2 i) (xM.2.2.2 i)) 45 180 := ⟨trivial, ⟨trivial, ⟨trivial, ⟨trivial, ⟨trivial, ⟨trivial, ⟨trivial, ⟨trivial, ⟨trivial, ⟨trivial, ⟨trivial, ⟨trivial, ⟨trivial, ⟨trivial, ⟨trivial, ⟨trivial, ⟨trivial, ⟨trivial, ⟨trivial, ⟨trivial, ⟨trivial, ⟨trivial, ⟨trivial, ⟨trivial, ⟨trivial, ⟨trivial, ⟨trivial, ⟨trivial, ⟨trivial, ⟨trivial, ⟨trivial, ⟨trivial, ⟨trivial, ⟨trivial, ⟨trivial, ⟨trivial, ⟨trivial, ⟨trivial, ⟨trivial, ⟨trivial, ⟨trivial, ⟨trivial, ⟨trivial, ⟨trivial, ⟨trivial, trivial⟩⟩⟩⟩⟩⟩⟩⟩⟩⟩⟩⟩⟩⟩⟩⟩⟩⟩⟩⟩⟩⟩⟩⟩⟩⟩⟩⟩⟩⟩⟩⟩⟩⟩⟩⟩⟩⟩⟩⟩⟩⟩⟩⟩⟩
set_option maxRecDepth 100000 in
theorem xks_c225 : xN (fun i => xokK Gw (xM.1 i).cls (xT.2.2 i) (xM.2.2.2 i)) 45 225 := ⟨trivial, ⟨trivial, ⟨trivial, ⟨trivial, ⟨trivial, ⟨trivial, ⟨trivial, ⟨trivial, ⟨trivial, ⟨trivial, ⟨trivial, ⟨trivial, ⟨trivial, ⟨trivial, ⟨trivial, ⟨trivial, ⟨trivial, ⟨trivial, ⟨trivial, ⟨trivial, ⟨trivial, ⟨trivial, ⟨trivial, ⟨trivial, ⟨trivial, ⟨trivial, ⟨trivial, ⟨trivial, ⟨trivial, ⟨trivial, ⟨trivial, ⟨trivial, ⟨trivial, ⟨trivial, ⟨trivial, ⟨trivial, ⟨trivial, ⟨trivial, ⟨trivial, ⟨trivial, ⟨trivial, ⟨trivial, ⟨trivial, ⟨trivial, ⟨trivial, trivial⟩⟩⟩⟩⟩⟩⟩⟩⟩⟩⟩⟩⟩⟩⟩⟩⟩⟩⟩⟩⟩⟩⟩⟩⟩⟩⟩⟩⟩⟩⟩⟩⟩⟩⟩⟩⟩⟩⟩⟩⟩⟩⟩⟩⟩
set_option maxRecDepth 100000 in
theorem xks_c270 : xN (fun i => xokK Gw (xM.1 i).cls (xT.2.2 i) (xM.2.2.2 i)) 45 270 := ⟨trivial, ⟨trivial, ⟨trivial, ⟨trivial, ⟨trivial, ⟨trivial, ⟨trivial, ⟨trivial, ⟨trivial, ⟨trivial, ⟨trivial, ⟨trivial, ⟨trivial, ⟨trivial, ⟨trivial, ⟨trivial, ⟨trivial, ⟨trivial, ⟨trivial, ⟨trivial, ⟨trivial, ⟨trivial, ⟨trivial, ⟨trivial, ⟨trivial, ⟨trivial, ⟨trivial, ⟨trivial, ⟨trivial, ⟨trivial, ⟨trivial, ⟨trivial, ⟨trivial, ⟨trivial, ⟨trivial, ⟨trivial, ⟨trivial, ⟨trivial, ⟨trivial, ⟨trivial, ⟨trivial, ⟨trivial, ⟨trivial, ⟨trivial, ⟨trivial, trivial⟩⟩⟩⟩⟩⟩⟩⟩⟩⟩⟩⟩⟩⟩⟩⟩⟩⟩⟩⟩⟩⟩⟩⟩⟩⟩⟩⟩⟩⟩⟩⟩⟩⟩⟩⟩⟩⟩⟩⟩⟩⟩⟩⟩⟩
set_option maxRecDepth 100000 in
theorem xks_c315 : xN (fun i => xokK Gw (xM.1 i).cls (xT.2.2 i) (xM.2.2.2 i)) 14 315 := ⟨trivial, ⟨trivial, ⟨trivial, ⟨trivial, ⟨trivial, ⟨trivial, ⟨trivial, ⟨trivial, ⟨trivial, ⟨trivial, ⟨trivial, ⟨trivial, ⟨trivial, ⟨trivial, trivial⟩⟩⟩⟩⟩⟩⟩⟩⟩⟩⟩⟩⟩⟩
theorem xks {i : Nat} (hi : i < 329) : xokK Gw (xM.1 i).cls (xT.2.2 i) (xM.2.2.2 i) := by
  by_cases h0 : i < 45
  · exact xN_at 45 0 (xks_c0) i (by omega) (by omega)
  by_cases h45 : i < 90
  · exact xN_at 45 45 (xks_c45) i (by omega) (by omega)
  by_cases h90 : i < 135
  · exact xN_at 45 90 (xks_c90) i (by omega) (by omega)
  by_cases h135 : i < 180
  · exact xN_at 45 135 (xks_c135) i (by omega) (by omega)
  by_cases h180 : i < 225
  · exact xN_at 45 180 (xks_c180) i (by omega) (by omega)
  by_cases h225 : i < 270
  · exact xN_at 45 225 (xks_c225) i (by omega) (by omega)
  by_cases h270 : i < 315
  · exact xN_at 45 270 (xks_c270) i (by omega) (by omega)
  exact xN_at 14 315 (xks_c315) i (by omega) (by omega)
