/-! an object where the law runs, and a call on it -/
def plainO (o : XO) : Bool := match o with
  | .inl (some (.ref _)) => false
  | _ => true
theorem XOR_plain {r : Nat → Nat → Prop} {o p : XO} (h : XOR r o p) (k : plainO o = true) : p = o := by
  cases o with
  | inl v =>
    cases p with
    | inr F => exact h.elim
    | inl w =>
      have h : OVR r v w := h
      cases v with
      | none => cases w with
        | none => rfl
        | some w => exact h.elim
      | some v => cases w with
        | none => exact h.elim
        | some w =>
          have h : VR r v w := h
          cases v with
          | ref a => cases k
          | _ => cases h; rfl
  | inr E =>
    cases p with
    | inl w => exact h.elim
    | inr F =>
      have h : F = E := h
      rw [h]
def AtC (h' : XH) (b : Nat) (F : Nat → Prop) (P : XH → Prop) : Prop := ∃ (r : Nat → Nat → Prop) (h : XH), HR 32 72 r h h' ∧ r 32 b ∧ (∀ c, F c ↔ 72 ≤ c ∧ ∃ a, r a c) ∧ P h
/-- how the heap has moved since: what is new lies behind, what was there and is not of F is as it was -/
def MvC (h h2 : XH) (F F2 : Nat → Prop) (x y : Nat) : Prop := ∃ n n2, h.2.1 = some n ∧ h2.2.1 = some n2 ∧ n ≤ n2 ∧ (∀ c, F2 c → F c ∨ 72 + n ≤ c) ∧ (∀ c, F2 c → 72 ≤ c ∧ c < 72 + n2) ∧ (∀ c, c < 72 + n → ¬ F c → h2.1 c = h.1 c) ∧ h2.2.2.1 ≤ h.2.2.1 + x ∧ h2.2.2.2 ≤ h.2.2.2 + y
section ATC
variable {S : XSc} {d m : Nat} {as : List Value} {h h2 h3 : XH} {b b2 x y x2 y2 : Nat} {F F2 F3 : Nat → Prop} {P P2 : XH → Prop} {Q : XO → XH → Prop}
theorem AtC.imp (A : AtC h b F P) (k : ∀ c, P c → P2 c) : AtC h b F P2 := by
  obtain ⟨r, c, H, hb, hF, hP⟩ := A
  exact ⟨r, c, H, hb, hF, k c hP⟩
theorem AtC.pure {p : Prop} (A : AtC h b F (fun c => p ∧ P c)) : p ∧ AtC h b F P := by
  obtain ⟨r, c, H, hb, hF, hp, hP⟩ := A
  exact ⟨hp, r, c, H, hb, hF, hP⟩
theorem AtC.ex {α : Type} {P : α → XH → Prop} (A : AtC h b F (fun c => ∃ v, P v c)) : ∃ v, AtC h b F (P v) := by
  obtain ⟨r, c, H, hb, hF, v, hP⟩ := A
  exact ⟨v, r, c, H, hb, hF, hP⟩
theorem AtC.or (A : AtC h b F (fun c => P c ∨ P2 c)) : AtC h b F P ∨ AtC h b F P2 := by
  obtain ⟨r, c, H, hb, hF, hP⟩ := A
  rcases hP with hP | hP
  · exact Or.inl ⟨r, c, H, hb, hF, hP⟩
  · exact Or.inr ⟨r, c, H, hb, hF, hP⟩
theorem AtC.get (A : AtC h b F P) : ∃ c, P c := by
  obtain ⟨r, c, H, hb, hF, hP⟩ := A
  exact ⟨c, hP⟩
/-- its cell -/
theorem AtC.cell (A : AtC h b F P) {ci : Nat} (hc : ∀ c, P c → ∃ fs, c.1 32 = some (.inr (ci, fs))) : ∃ gs, h.1 b = some (.inr (ci, gs)) := by
  obtain ⟨r, c, H, hb, hF, hP⟩ := A
  obtain ⟨fs, e⟩ := hc c hP
  obtain ⟨-, -, y, e2, gs, rfl, -⟩ := H.cell hb e
  exact ⟨gs, e2⟩
theorem AtC.lt (A : AtC h b F P) : ∃ n, h.2.1 = some n ∧ ∀ c, F c → 72 ≤ c ∧ c < 72 + n := by
  obtain ⟨r, c, ⟨H1, H2, H3, HT, n, m, e1, e2, H4⟩, hb, hF, hP⟩ := A
  refine ⟨m, e2, fun c hc => ?_⟩
  obtain ⟨h72, a, ha⟩ := (hF c).mp hc
  exact ⟨h72, (H4 a c ha).2⟩
theorem AtC.fr (A : AtC h b F P) {n n2 : Nat} (e : h.2.1 = some n) (e2 : h2.2.1 = some n2) (hn : n ≤ n2) (hl : ∀ c, c < 72 → h2.1 c = h.1 c) (hf : ∀ c, F c → h2.1 c = h.1 c) : AtC h2 b F P := by
  obtain ⟨r, c, ⟨H1, H2, H3, HT, n0, m, e3, e4, H4⟩, hb, hF, hP⟩ := A
  cases e.symm.trans e4
  refine ⟨r, c, ⟨fun a d had => ?_, H2, H3, HT, n0, n2, e3, e2, fun a d had => by have := H4 a d had; omega⟩, hb, hF, hP⟩
  rcases H1 a d had with ⟨q1, q2, q3, q4, q5⟩ | ⟨q1, q2, u, v, q3, q4, q5⟩
  · exact Or.inl ⟨q1, q2, q3, q4, (hl a (by omega)).trans q5⟩
  · exact Or.inr ⟨q1, q2, u, v, q3, (hf d ((hF d).mpr ⟨q2, a, had⟩)).trans q4, q5⟩
theorem MvC.rf (A : AtC h b F P) : MvC h h F F 0 0 := by
  obtain ⟨n, e, k⟩ := A.lt
  exact ⟨n, n, e, e, Nat.le_refl _, fun _ q => Or.inl q, k, fun _ _ _ => rfl, Nat.le_refl _, Nat.le_refl _⟩
theorem MvC.tr (u : MvC h h2 F F2 x y) (v : MvC h2 h3 F2 F3 x2 y2) : MvC h h3 F F3 (x + x2) (y + y2) := by
  obtain ⟨n, n2, e1, e2, u1, u2, u3, u4, u5, u6⟩ := u
  obtain ⟨n3, n4, e3, e4, v1, v2, v3, v4, v5, v6⟩ := v
  cases e2.symm.trans e3
  refine ⟨n, n4, e1, e4, by omega, fun c hc => ?_, v3, fun c hc hn => ?_, by omega, by omega⟩
  · rcases v2 c hc with q | q
    · exact u2 c q
    · exact Or.inr (by omega)
  · refine (v4 c (by omega) (fun q => ?_)).trans (u4 c hc hn)
    rcases u2 c q with w | w
    · exact hn w
    · omega
theorem MvC.le (u : MvC h h2 F F2 x y) (h1 : x ≤ x2) (h3 : y ≤ y2) : MvC h h2 F F2 x2 y2 := by
  obtain ⟨n, n2, e1, e2, u1, u2, u3, u4, u5, u6⟩ := u
  exact ⟨n, n2, e1, e2, u1, u2, u3, u4, by omega, by omega⟩
/-- another object stays, and stays apart -/
theorem AtC.keep (A : AtC h b2 F3 P2) (u : MvC h h2 F F2 x y) (hd : ∀ c, F c → F3 c → False) (hF : ∀ c, F c → 72 ≤ c) : AtC h2 b2 F3 P2 ∧ ∀ c, F2 c → F3 c → False := by
  obtain ⟨n0, e0, k0⟩ := A.lt
  obtain ⟨n, n2, e1, e2, u1, u2, u3, u4, u5, u6⟩ := u
  cases e0.symm.trans e1
  refine ⟨A.fr e1 e2 u1 (fun c hc => u4 c (by omega) (fun q => by have := hF c q; omega)) (fun c hc => u4 c (k0 c hc).2 (fun q => hd c q hc)), fun c q w => ?_⟩
  rcases u2 c q with z | z
  · exact hd c z w
  · have := k0 c w
    omega
theorem AtC.call {P2 : XO → XH → Prop} (hm : cMth m) (A : AtC h b F P) (has : ∀ v ∈ as, ∀ a, v ≠ .ref a) (k : ∀ c, P c → xP S d m 0 (lv_args 0 (.ref 32 :: as)) [] c (fun o c2 => plainO o = true ∧ P2 o c2 ∧ c2.2.2.1 ≤ c.2.2.1 + x ∧ c2.2.2.2 ≤ c.2.2.2 + y)) (kk : ∀ o h2 F2, AtC h2 b F2 (P2 o) → MvC h h2 F F2 x y → Q o h2) : yP S d m 0 (lv_args 0 (.ref b :: as)) [] h Q := by
  obtain ⟨r, c, H, hb, hF, hP⟩ := A
  obtain ⟨n, z, hz, hpl, hP2, hx, hy⟩ := k c hP
  obtain ⟨r2, z', g1, g2, g3, g4⟩ := xgo_reloc (by omega) (by omega) xgd_c xxr_c (hro_c S) n d m 0 r _ (lv_args 0 (.ref b :: as)) [] [] c h z hm (LR.args 0 (show LR r (.ref 32 :: as) (.ref b :: as) from ⟨⟨b, rfl, hb⟩, LR.self (fun v hv a ha => absurd ha (has v hv a))⟩)) (show LR r [] [] from trivial) H hz
  have e1 : z'.1 = z.1 := XOR_plain g2 hpl
  obtain ⟨n0, m0, d1, d2, hlt⟩ := H.2.2.2.2
  obtain ⟨p1, p2, m2, d3, p3⟩ := g4.2.1 m0 d2
  obtain ⟨n3, m3, d4, d5, hlt3⟩ := g3.2.2.2.2
  cases d3.symm.trans d5
  refine ⟨n, z', g1, ?_⟩
  rw [e1]
  refine kk z.1 z'.2 (fun e => 72 ≤ e ∧ ∃ a, r2 a e) ⟨r2, z.2, g3, g4.1 _ _ hb, fun e => Iff.rfl, hP2⟩ ⟨m0, m2, d2, d3, p3, ?_, ?_, ?_, ?_, ?_⟩
  · rintro e ⟨h72, a, ha⟩
    rcases p1 a e ha with q | q
    · exact Or.inl ((hF e).mpr ⟨h72, a, q⟩)
    · exact Or.inr q
  · rintro e ⟨h72, a, ha⟩
    exact ⟨h72, (hlt3 a e ha).2⟩
  · intro e he hn
    by_cases h32 : e < 32
    · have q1 := H.2.1 e h32
      have q2 := g3.2.1 e h32
      rcases H.1 e e q1 with ⟨-, -, -, -, w1⟩ | ⟨w1, -⟩
      · rcases g3.1 e e q2 with ⟨-, -, -, -, w2⟩ | ⟨w2, -⟩
        · rw [w1, w2]
        · omega
      · omega
    · refine p2 e he (fun a ha => ?_)
      by_cases h72 : 72 ≤ e
      · exact hn ((hF e).mpr ⟨h72, a, ha⟩)
      · rcases H.1 a e ha with ⟨w1, w2, -⟩ | ⟨-, w2, -⟩
        · omega
        · omega
  · have := g4.2.2.1
    omega
  · have := g4.2.2.2
    omega
end ATC
