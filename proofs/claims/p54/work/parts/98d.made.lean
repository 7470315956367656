/-! a contest is made where the law runs; a run again -/
def Lo (h : XH) : Prop := ∀ a, a < 72 → h.1 a = none
def F0c : Nat → Prop := fun _ => False
theorem Lo.mv {h h2 : XH} {F F2 : Nat → Prop} {x y : Nat} (l : Lo h) (u : MvC h h2 F F2 x y) (hF : ∀ c, F c → 72 ≤ c) : Lo h2 := by
  obtain ⟨n, n2, e1, e2, u1, u2, u3, u4, u5, u6⟩ := u
  intro a ha
  exact (u4 a (by omega) (fun q => by have := hF a q; omega)).trans (l a ha)
theorem AtC.ge {h : XH} {b : Nat} {F : Nat → Prop} {P : XH → Prop} (A : AtC h b F P) : ∀ c, F c → 72 ≤ c := fun c hc => by
  obtain ⟨n, -, k⟩ := A.lt
  exact (k c hc).1
theorem ys_newO {S : XSc} {d mid pc : Nat} {lv : XLv} {st : List Value} {h : XH} {Q : XO → XH → Prop} (pc2 : Nat) {i ci n : Nat} {fs : List Value} {ts : List Nat} (hr : xT.1 mid pc = some (.new i, ((ci, n), (fs, ts)))) (ht : xthr (.new i, ((ci, n), (fs, ts))) = none) (hp : pc + 3 = pc2) {k : Nat} (hk : h.2.1 = some k) (kk : ∀ h2 : XH, h2.1 (72 + k) = some (.inr (ci, fs)) → (∀ x, x ≠ 72 + k → h2.1 x = h.1 x) → h2.2 = (some (k + 1), (h.2.2.1 + 1, h.2.2.2 + n)) → yP S d mid pc2 lv (.ref (72 + k) :: st) h2 Q) : yP S d mid pc lv st h Q := by
  obtain ⟨f, m, c, s⟩ := h
  have hk : m = some k := hk
  subst hk
  exact ys_h pc2 hr ht hp (st2 := .ref (72 + k) :: st) (h2 := (xup f (72 + k) (.inr (ci, fs)), (some (k + 1), (c + 1, s + n)))) rfl (kk _ xup_s (fun x hx => xup_n hx) rfl)
def nulC : XE := .inr (8, [.null, .null, .null, .null, .null, .null, .int 0, .int 0, .int 0])
def strC : XH := (xup (fun _ => none) 32 nulC, (some 1, (1, 9)))
theorem strC_o : strC.1 32 = some nulC := by
  show xup (fun _ => none) 32 nulC 32 = _
  exact xup_s
theorem strC_n {a : Nat} (h : a ≠ 32) : strC.1 a = none := by
  show xup (fun _ => none) 32 nulC a = _
  exact xup_n h
theorem ca_new {c : XH} {S : XSc} {d : Nat} {Q : XO → XH → Prop} (e : c = strC) (k : ∀ h2, Ca 0 (fun _ => 0) (fun _ => 0) (fun _ => 0) 0 false (-1) (-1) 0 (fun _ => 0) h2 → h2.2.2.1 = 777 → h2.2.2.2 = 4418 → Q (.inl none) h2) : xP S (d + 7) 83 0 [(0, .ref 32)] [] c Q := by
  subst e
  refine xP_up (show d + 5 ≤ d + 7 by omega) (n_83 strC_o rfl (fun h2 e2 b2 c2 d2 r2 s2 v2 t2 u2 w2 n2 => ?_))
  refine k h2 ⟨0, 0, ⟨e2, ⟨d2, r2, ⟨by omega, by omega⟩, fun j hj => ⟨fun _ => 0, sim0 (s2 j hj)⟩, fun m hm => absurd hm (Nat.not_lt_zero _)⟩, (fun z => nomatch z), fun _ => 0, sim0 c2⟩, sim0 b2, ⟨_, _, _, v2⟩, ⟨_, _, _, t2⟩, ⟨0, fun _ => 0, ⟨16, 808, fun _ => 0, 777, ⟨0, u2⟩, w2, fun j hj => absurd hj (Nat.not_lt_zero _), fun j hj => ⟨0, by omega, rfl⟩, ⟨by omega, by omega, by omega⟩, ⟨by omega, Or.inl rfl, by omega⟩, congrArg Prod.fst n2, by omega, by omega⟩, by omega⟩, by omega, by omega, by omega, by omega⟩ (congrArg (fun z => z.2.1) n2) (congrArg (fun z => z.2.2) n2)
theorem at_new {h : XH} {n : Nat} (l : Lo h) (hn : h.2.1 = some (n + 1)) (o : h.1 (72 + n) = some nulC) : AtC h (72 + n) (fun c => c = 72 + n) (fun c => c = strC) := by
  refine ⟨fun a b => (a < 32 ∧ b = a) ∨ (a = 32 ∧ b = 72 + n), strC, ⟨?_, fun a ha => Or.inl ⟨ha, rfl⟩, ?_, ?_, 1, n + 1, rfl, hn, ?_⟩, Or.inr ⟨rfl, rfl⟩, ?_, rfl⟩
  · rintro a b (⟨h1, rfl⟩ | ⟨rfl, rfl⟩)
    · exact Or.inl ⟨h1, rfl, by omega, strC_n (by omega), l b (by omega)⟩
    · exact Or.inr ⟨Nat.le_refl _, by omega, nulC, nulC, strC_o, o, _, rfl, LR.self (fun v hv a ha => by subst ha; simp at hv)⟩
  · rintro a b c e (⟨h1, rfl⟩ | ⟨rfl, rfl⟩) (⟨h2, rfl⟩ | ⟨rfl, rfl⟩)
    · exact Iff.rfl
    · exact ⟨fun z => by omega, fun z => by omega⟩
    · exact ⟨fun z => by omega, fun z => by omega⟩
    · exact ⟨fun _ => rfl, fun _ => rfl⟩
  · intro a x hx
    by_cases ha : a = 32
    · exact ⟨72 + n, Or.inr ⟨ha, rfl⟩⟩
    · rw [strC_n ha] at hx; cases hx
  · rintro a b (⟨h1, rfl⟩ | ⟨rfl, rfl⟩) <;> exact ⟨by omega, by omega⟩
  · intro c
    constructor
    · intro hc
      exact ⟨by omega, 32, Or.inr ⟨rfl, hc⟩⟩
    · rintro ⟨h1, a, ⟨h2, rfl⟩ | ⟨-, rfl⟩⟩
      · omega
      · rfl
/-- the constructor, and how the heap has moved since before the object was there -/
theorem la_83 {S : XSc} {d : Nat} {h h1 : XH} {Q : XO → XH → Prop} {n : Nat} (l : Lo h) (hn : h.2.1 = some n) (o : h1.1 (72 + n) = some nulC) (y : ∀ x, x ≠ 72 + n → h1.1 x = h.1 x) (e : h1.2 = (some (n + 1), (h.2.2.1 + 1, h.2.2.2 + 9))) (k : ∀ h2 F2, AtC h2 (72 + n) F2 (Ca 0 (fun _ => 0) (fun _ => 0) (fun _ => 0) 0 false (-1) (-1) 0 (fun _ => 0)) → MvC h h2 F0c F2 777 4418 → Q (.inl none) h2) : yP S (d + 7) 83 0 [(0, .ref (72 + n))] [] h1 Q := by
  have l1 : Lo h1 := fun a ha => (y a (by omega)).trans (l a ha)
  refine AtC.call (as := []) (P2 := fun o c => o = .inl none ∧ Ca 0 (fun _ => 0) (fun _ => 0) (fun _ => 0) 0 false (-1) (-1) 0 (fun _ => 0) c) (x := 776) (y := 4409) (Or.inl (by decide)) (at_new l1 (congrArg Prod.fst e) o) (noRn rfl) (fun c hC => ca_new hC (fun h2 hC2 e1 e2 => ⟨rfl, ⟨rfl, hC2⟩, ?_, ?_⟩)) (fun o2 h2 F2 A2 M2 => ?_)
  · rw [e1, hC]; exact Nat.le_refl _
  · rw [e2, hC]; exact Nat.le_refl _
  · obtain ⟨e9, A3⟩ := A2.pure
    rw [e9]
    refine k h2 F2 A3 ?_
    obtain ⟨m, m2, e1, e2, u1, u2, u3, u4, u5, u6⟩ := M2
    have e3 : h1.2.1 = some (n + 1) := congrArg Prod.fst e
    have e4 : h1.2.2.1 = h.2.2.1 + 1 := congrArg (fun z => z.2.1) e
    have e5 : h1.2.2.2 = h.2.2.2 + 9 := congrArg (fun z => z.2.2) e
    cases e3.symm.trans e1
    refine ⟨n, m2, hn, e2, by omega, fun c hc => Or.inr ?_, u3, fun c hc _ => ?_, by omega, by omega⟩
    · rcases u2 c hc with q | q
      · omega
      · omega
    · exact (u4 c (by omega) (by omega)).trans (y c (by omega))
/-! a run again, from another heap -/
def cmpR (r r2 : Nat → Nat → Prop) : Nat → Nat → Prop := fun a e => ∃ d, r a d ∧ r2 d e
theorem VR.cmp {r r2 : Nat → Nat → Prop} {u v w : Value} (h : VR r u v) (k : VR r2 v w) : VR (cmpR r r2) u w := by
  cases u with
  | ref a =>
    obtain ⟨b, rfl, h⟩ := h
    obtain ⟨c, rfl, k⟩ := k
    exact ⟨c, rfl, b, h, k⟩
  | _ => cases h; exact k
theorem LR.cmp {r r2 : Nat → Nat → Prop} : ∀ {s t u : List Value}, LR r s t → LR r2 t u → LR (cmpR r r2) s u
  | [], [], [], _, _ => trivial
  | _ :: _, _ :: _, _ :: _, h, k => ⟨h.1.cmp k.1, h.2.cmp k.2⟩
  | [], _ :: _, _, h, _ => h.elim
  | _ :: _, [], _, h, _ => h.elim
  | [], [], _ :: _, _, k => k.elim
  | _ :: _, _ :: _, [], _, k => k.elim
theorem ORf.cmp {r r2 : Nat → Nat → Prop} {u v w : Option Nat} (h : ORf r u v) (k : ORf r2 v w) : ORf (cmpR r r2) u w := by
  cases u <;> cases v <;> cases w <;> first | exact trivial | exact h.elim | exact k.elim | exact ⟨_, h, k⟩
theorem AR.cmp {r r2 : Nat → Nat → Prop} {x y z : vp_A} (h : AR r x y) (k : AR r2 y z) : AR (cmpR r r2) x z := by
  obtain ⟨n, x⟩ := x
  obtain ⟨n2, y⟩ := y
  obtain ⟨n3, z⟩ := z
  obtain ⟨e1, h⟩ := h
  obtain ⟨e2, k⟩ := k
  have e1 : n2 = n := e1
  have e2 : n3 = n2 := e2
  subst e1
  subst e2
  refine ⟨rfl, ?_⟩
  rcases x with f | f | f | f | f
  · have h : y = .inl f := h
    subst h
    exact k
  · have h : y = .inr (.inl f) := h
    subst h
    exact k
  · have h : y = .inr (.inr (.inl f)) := h
    subst h
    exact k
  · have h : y = .inr (.inr (.inr (.inl f))) := h
    subst h
    exact k
  · obtain ⟨g, h, h1⟩ := h
    have h : y = .inr (.inr (.inr (.inr g))) := h
    subst h
    obtain ⟨g2, k, k1⟩ := k
    exact ⟨g2, k, fun j hj => (h1 j hj).cmp (k1 j hj)⟩
theorem ER.cmp {r r2 : Nat → Nat → Prop} {x y z : XE} (h : ER r x y) (k : ER r2 y z) : ER (cmpR r r2) x z := by
  rcases x with q | q
  · obtain ⟨y1, rfl, h⟩ := h
    obtain ⟨z1, rfl, k⟩ := k
    exact ⟨z1, rfl, h.cmp k⟩
  · obtain ⟨y1, rfl, h⟩ := h
    obtain ⟨z1, rfl, k⟩ := k
    exact ⟨z1, rfl, h.cmp k⟩
theorem HR.cmp {r r2 : Nat → Nat → Prop} {c h h' : XH} (H : HR 32 72 r c h) (K : HR 72 72 r2 h h') : HR 32 72 (cmpR r r2) c h' := by
  obtain ⟨H1, H2, H3, H4, n, m, H5, H6, H7⟩ := H
  obtain ⟨K1, K2, K3, K4, n2, m2, K5, K6, K7⟩ := K
  refine ⟨?_, fun a ha => ⟨a, H2 a ha, K2 a (by omega)⟩, ?_, ?_, n, m2, H5, K6, ?_⟩
  · rintro a e ⟨d, h1, h2⟩
    rcases H1 a d h1 with ⟨q1, rfl, q2, q3, q4⟩ | ⟨q1, q2, x, y, q3, q4, q5⟩
    · rcases K1 d e h2 with ⟨p1, p2, p3, p4, p5⟩ | ⟨p1, p2, -⟩
      · exact Or.inl ⟨q1, p2, by omega, q3, p2 ▸ p5⟩
      · omega
    · rcases K1 d e h2 with ⟨p1, -⟩ | ⟨p1, p2, x2, y2, p3, p4, p5⟩
      · omega
      · cases q4.symm.trans p3
        exact Or.inr ⟨q1, p2, x, y2, q3, p4, q5.cmp p5⟩
  · rintro a e a2 e2 ⟨d, h1, h2⟩ ⟨d2, h3, h4⟩
    exact (H3 a d a2 d2 h1 h3).trans (K3 d e d2 e2 h2 h4)
  · intro a x hx
    obtain ⟨d, hd⟩ := H4 a x hx
    rcases H1 a d hd with ⟨-, -, -, q, -⟩ | ⟨-, -, x2, y2, q3, q4, -⟩
    · rw [q] at hx; cases hx
    · obtain ⟨e, he⟩ := K4 d y2 q4
      exact ⟨e, d, hd, he⟩
  · rintro a e ⟨d, h1, h2⟩
    exact ⟨(H7 a d h1).1, (K7 d e h2).2⟩
def emH : XH := (fun _ => none, (some 0, (0, 0)))
/-- what a run from the empty heap makes, it makes again where others are -/
theorem again {S : XSc} {n d m b x y : Nat} {F : Nat → Prop} {P : XH → Prop} {z : XO × XH} {h : XH} (e : xgo xT yX 12 72 (yro S.1 S.2) n d m 0 [(0, .ref 12)] [] emH = some z) (ez : z.1 = .inl (some (.ref b))) (A : AtC z.2 b F P) (hx : z.2.2.2.1 ≤ x) (hy : z.2.2.2.2 ≤ y) (l : Lo h) {k : Nat} (hk : h.2.1 = some k) {Q : XO → XH → Prop} (kk : ∀ h2 b2 F2, AtC h2 b2 F2 P → MvC h h2 F0c F2 x y → Q (.inl (some (.ref b2))) h2) : yP S d m 0 [(0, .ref 12)] [] h Q := by
  have H0 : HR 72 72 (fun a b => a < 72 ∧ b = a) emH h := by
    refine ⟨?_, fun a ha => ⟨ha, rfl⟩, ?_, fun a x hx => (nomatch hx), 0, k, rfl, hk, ?_⟩
    · rintro a b ⟨h1, rfl⟩
      exact Or.inl ⟨h1, rfl, h1, rfl, l b h1⟩
    · rintro a b c e ⟨h1, rfl⟩ ⟨h2, rfl⟩
      exact Iff.rfl
    · rintro a b ⟨h1, rfl⟩
      exact ⟨by omega, by omega⟩
  obtain ⟨r2, z', g1, g2, g3, g4⟩ := xgo_reloc (by omega) (by omega) xgd_l xxr_l (hro_l S) n d m 0 _ [(0, .ref 12)] [(0, .ref 12)] [] [] emH h z trivial ⟨rfl, ⟨12, rfl, by omega, rfl⟩, trivial⟩ trivial H0 e
  rw [ez] at g2
  obtain ⟨q, hq⟩ : ∃ b2, z'.1 = .inl (some (.ref b2)) ∧ r2 b b2 := by
    revert g2
    cases z'.1 with
    | inr E => intro g; exact g.elim
    | inl v =>
      intro g
      have g : OVR r2 (some (.ref b)) v := g
      cases v with
      | none => exact g.elim
      | some v =>
        obtain ⟨b2, e2, e3⟩ := g
        exact ⟨b2, by rw [e2], e3⟩
  obtain ⟨r, c, H, hb, hF, hP⟩ := A
  have HC := H.cmp g3
  obtain ⟨p1, p2, m2, d3, p3⟩ := g4.2.1 k hk
  obtain ⟨n3, m3, d4, d5, hlt3⟩ := g3.2.2.2.2
  cases d3.symm.trans d5
  refine ⟨n, z', g1, ?_⟩
  rw [hq.1]
  refine kk z'.2 q (fun e => 72 ≤ e ∧ ∃ a, cmpR r r2 a e) ⟨cmpR r r2, c, HC, ⟨b, hb, hq.2⟩, fun e => Iff.rfl, hP⟩ ⟨k, m2, hk, d3, p3, ?_, ?_, ?_, ?_, ?_⟩
  · rintro e ⟨h72, a, d, h1, h2⟩
    rcases p1 d e h2 with q | q
    · omega
    · exact Or.inr q
  · rintro e ⟨h72, a, d, h1, h2⟩
    exact ⟨h72, (hlt3 d e h2).2⟩
  · intro e he _
    by_cases h72 : e < 72
    · rcases g3.1 e e (g3.2.1 e h72) with ⟨-, -, -, -, w⟩ | ⟨w, -⟩
      · rw [w, l e h72]
      · omega
    · exact p2 e he (fun a ha => by omega)
  · have := g4.2.2.1
    have e0 : emH.2.2.1 = 0 := rfl
    omega
  · have := g4.2.2.2
    have e0 : emH.2.2.2 = 0 := rfl
    omega
