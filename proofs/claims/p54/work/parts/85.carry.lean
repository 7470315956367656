/-! the commands are carried out -/
theorem e_145 {S : XSc} {d : Nat} {h : XH} {Q : XO → XH → Prop} {np no : Nat} {nn : Int32} {sc : Nat} {ho : Int32} {TS TH tr : Nat → Int32} {pl : Nat → XPl} {q : Nat → XQu} {s : Nat → Nat} {R : Nat → Nat → Nat} {i1 i2 i3 : Int32} (o0 : h.1 32 = some (.inr (8, [.ref 33, .ref 102, .ref 171, .ref 794, .ref 804, .ref 807, .int i1, .int i2, .int i3]))) (hB : BdP h.1 33 np no nn sc ho TS TH tr pl q s R) {n p c : Nat} {Bu nu : Nat → Int32} (hT : TxP h.1 804 n p c Bu nu) {j : Nat} (hj : j < 6) (k : Q (.inl (some (.ref (fltC np no pl q (nmC c nu) j)))) h) : xP S (d + 3) 145 0 [(0, .ref 32), (1, .ref (6 + j))] [] h Q :=
  match j, hj, k with
  | 0, _, k => e_145_0 o0 hB hT k
  | 1, _, k => e_145_1 o0 hB hT k
  | 2, _, k => e_145_2 o0 hB hT k
  | 3, _, k => e_145_3 o0 hB hT k
  | 4, _, k => e_145_4 o0 hB hT k
  | 5, _, k => e_145_5 o0 hB hT k
  | j + 6, hj, _ => absurd hj (by omega)
theorem e_146 {S : XSc} {d : Nat} {h : XH} {Q : XO → XH → Prop} {N K : Nat} {G : Nat → Int32} {mn : Nat → Nat} {np no : Nat} {nn : Int32} {sc : Nat} {ho : Int32} {TS TH tr : Nat → Int32} {pl : Nat → XPl} {q : Nat → XQu} {s : Nat → Nat} {R : Nat → Nat → Nat} {i1 i2 i3 : Int32} (o0 : h.1 32 = some (.inr (8, [.ref 33, .ref 102, .ref 171, .ref 794, .ref 804, .ref 807, .int i1, .int i2, .int i3]))) (hB : BdP h.1 33 np no nn sc ho TS TH tr pl q s R) (hr : RG G mn np no nn sc ho tr pl q) (hk : OKc np no nn N sc ho TS TH pl q) (hN : N ≤ K) (hs : sc ≤ K) (hK : K ≤ 1000) {n p c : Nat} {Bu nu : Nat → Int32} (hT : TxP h.1 804 n p c Bu nu) {j : Nat} (hj : j < 6) (h0 : fltC np no pl q (nmC c nu) j = 0) (k : ∀ f, Sim f 33 (gC G np no sc mn (nmC c nu) j) (K + 1) → Fr h.1 f 33 (33 + 69) → Q (.inl none) (f, h.2)) : xP S (d + 4) 146 0 [(0, .ref 32), (1, .ref (6 + j))] [] h Q :=
  match j, hj, h0, k with
  | 0, _, h0, k => e_146_0 o0 hB hr hk hN hs hK hT h0 k
  | 1, _, h0, k => e_146_1 o0 hB hr hk hN hs hK hT h0 k
  | 2, _, h0, k => e_146_2 o0 hB hr hk hN hs hK hT h0 k
  | 3, _, h0, k => e_146_3 o0 hB hr hk hN hs hK hT h0 k
  | 4, _, h0, k => e_146_4 o0 hB hr hk hN hs hK hT h0 k
  | 5, _, h0, k => e_146_5 o0 hB hr hk hN hs hK hT h0 k
  | j + 6, hj, _, _ => absurd hj (by omega)
theorem rdA_lt {Bu : Nat → Int32} {n s : Nat} : ∀ {m j far c : Nat} {nu : Nat → Int32} {i : Nat}, (rdA Bu n s m j far c nu).1 = some i → i < j + m
  | 0, j, far, c, nu, i, h => nomatch h
  | m + 1, j, far, c, nu, i, h => by
    unfold rdA at h
    cases hb : (rd1 Bu n s j nu).1
    · rw [hb, cond_false] at h
      have := rdA_lt h
      omega
    · rw [hb, cond_true] at h
      have : j = i := Option.some.inj h
      omega
/-- what the row itself says of the counts -/
def npG (G : Nat → Int32) : Nat := (G 0).toNatClampNeg
def noG (G : Nat → Int32) : Nat := (G 1).toNatClampNeg
def scG (G : Nat → Int32) : Nat := (G 4).toNatClampNeg
def mnG (G : Nat → Int32) (i : Nat) : Nat := (G (132 + i)).toNatClampNeg
theorem RG.nm {G : Nat → Int32} {mn : Nat → Nat} {np no : Nat} {nn : Int32} {sc : Nat} {ho : Int32} {tr : Nat → Int32} {pl : Nat → XPl} {q : Nat → XQu} (h : RG G mn np no nn sc ho tr pl q) (hs : sc ≤ 100000) : RG G (mnG G) np no nn sc ho tr pl q ∧ npG G = np ∧ noG G = no ∧ scG G = sc := by
  obtain ⟨⟨⟨g0, g5⟩, ⟨g1, g6⟩, gm⟩, ⟨r1, r2, r3⟩, r4, r5, r6, r7⟩ := h
  have em : ∀ i, i < 6 → mnG G i = mn i := fun i hi => by
    unfold mnG
    rw [(gm i hi).1]
    exact nI_clamp (by have := (gm i hi).2; omega)
  refine ⟨⟨⟨⟨g0, g5⟩, ⟨g1, g6⟩, fun i hi => by rw [em i hi]; exact gm i hi⟩, ⟨r1, r2, r3⟩, r4, r5, fun i hi => (r6 i hi).tr ⟨rfl, rfl, (em i (by omega)).symm, fun r _ => rfl⟩, r7⟩, ?_, ?_, ?_⟩
  · unfold npG; rw [g0]; exact nI_clamp (by omega)
  · unfold noG; rw [g1]; exact nI_clamp (by omega)
  · unfold scG; rw [r3]; exact nI_clamp (by omega)
def flG (G : Nat → Int32) (x : Nat → Int32) (j : Nat) : Nat := fltC (npG G) (noG G) (gP G) (gQ G (mnG G)) x j
def gcG (G : Nat → Int32) (x : Nat → Int32) (j : Nat) : Nat → Int32 := gC G (npG G) (noG G) (scG G) (mnG G) x j
theorem leavF_cong {np : Nat} {x y : Nat → XPl} (hn : np ≤ 100000) (h : ∀ i, i < np → eqP (x i) (y i)) (p : Int32) : leavF np x p = leavF np y p := by
  unfold leavF
  split
  · rename_i z; rw [(h _ (isPl_i z hn)).2.2.1]
  · rfl
theorem fltC_cong {np no : Nat} {x y : Nat → XPl} {q k : Nat → XQu} (hn : np ≤ 100000) (hp : ∀ i, i < np → eqP (x i) (y i)) (h : ∀ i, i < no → eqQ (q i) (k i)) (v : Nat → Int32) (j : Nat) : fltC np no x q v j = fltC np no y k v j := by
  unfold fltC
  split <;> first | rfl | exact betF_cong hn hp h _ _ _ _ _ _ | exact leavF_cong hn hp _
/-- commands from p on: which one fails first, the row then, and where the reading stands -/
def exC (Bu : Nat → Int32) (n : Nat) : Nat → Nat → Nat → Nat → (Nat → Int32) → (Nat → Int32) → Option Nat × ((Nat → Int32) × (Nat × (Nat × (Nat → Int32))))
  | 0, _, p, c, nu, G => (none, (G, (p, (c, nu))))
  | m + 1, i, p, c, nu, G => match (rdA Bu n p 6 0 p c nu).1 with
    | none => (some i, (G, (rdA Bu n p 6 0 p c nu).2))
    | some j => if flG G (nmC (rdA Bu n p 6 0 p c nu).2.2.1 (rdA Bu n p 6 0 p c nu).2.2.2) j = 0 then exC Bu n m (i + 1) (if (rdA Bu n p 6 0 p c nu).2.1 < n ∧ Bu (rdA Bu n p 6 0 p c nu).2.1 = 59 then (rdA Bu n p 6 0 p c nu).2.1 + 1 else (rdA Bu n p 6 0 p c nu).2.1) (rdA Bu n p 6 0 p c nu).2.2.1 (rdA Bu n p 6 0 p c nu).2.2.2 (gcG G (nmC (rdA Bu n p 6 0 p c nu).2.2.1 (rdA Bu n p 6 0 p c nu).2.2.2) j) else (some i, (G, (rdA Bu n p 6 0 p c nu).2))
theorem fltC_le {np no : Nat} {pl : Nat → XPl} {q : Nat → XQu} {x : Nat → Int32} {j : Nat} : fltC np no pl q x j ≤ 5 := by
  unfold fltC
  split
  · exact joinF_le _
  · exact askF_le _ _
  · exact betF_l5 _ _ _ _ _ _ _ _ _ _
  · exact settF_le _ _
  · exact postF_le _
  · exact leavF_le _ _ _
theorem xcma_ne {x a b : Nat} {r : List Value} (hx : x ≤ 5) (h : x ≠ 0) : xcma 12 .eq a b (.ref 0 :: .ref x :: r) = some (b, r) :=
  match x, hx, h with
  | 0, _, h => absurd rfl h
  | 1, _, _ => rfl
  | 2, _, _ => rfl
  | 3, _, _ => rfl
  | 4, _, _ => rfl
  | 5, _, _ => rfl
  | x + 6, hx, _ => absurd hx (by omega)
def Fz (f g : Nat → Option XE) : Prop := ∀ c, (c < 33 ∨ (102 ≤ c ∧ c < 804) ∨ 807 ≤ c) → g c = f c
theorem Fz.tr {f g k : Nat → Option XE} (h1 : Fz f g) (h2 : Fz g k) : Fz f k := fun c hc => (h2 c hc).trans (h1 c hc)
theorem Fz.t {f g : Nat → Option XE} {a b : Nat} (h : Fr f g a b) (ha : 804 ≤ a) (hb : b ≤ 807) : Fz f g := fun c hc => h c (by omega)
theorem Fz.b {f g : Nat → Option XE} (h : Fr f g 33 (33 + 69)) : Fz f g := fun c hc => h c (by omega)
theorem exC_s {Bu : Nat → Int32} {n m i p c : Nat} {nu G : Nat → Int32} : exC Bu n (m + 1) i p c nu G = match (rdA Bu n p 6 0 p c nu).1 with
    | none => (some i, (G, (rdA Bu n p 6 0 p c nu).2))
    | some j => if flG G (nmC (rdA Bu n p 6 0 p c nu).2.2.1 (rdA Bu n p 6 0 p c nu).2.2.2) j = 0 then exC Bu n m (i + 1) (if (rdA Bu n p 6 0 p c nu).2.1 < n ∧ Bu (rdA Bu n p 6 0 p c nu).2.1 = 59 then (rdA Bu n p 6 0 p c nu).2.1 + 1 else (rdA Bu n p 6 0 p c nu).2.1) (rdA Bu n p 6 0 p c nu).2.2.1 (rdA Bu n p 6 0 p c nu).2.2.2 (gcG G (nmC (rdA Bu n p 6 0 p c nu).2.2.1 (rdA Bu n p 6 0 p c nu).2.2.2) j) else (some i, (G, (rdA Bu n p 6 0 p c nu).2)) := rfl
theorem el_144 {S : XSc} {d : Nat} {h : XH} {Q : XO → XH → Prop} {i1 i2 i3 : Int32} (o0 : h.1 32 = some (.inr (8, [.ref 33, .ref 102, .ref 171, .ref 794, .ref 804, .ref 807, .int i1, .int i2, .int i3]))) {n : Nat} {Bu : Nat → Int32} {v K2 : Nat} (hv60 : v ≤ 100) (hK2 : K2 ≤ 1000) {Z : Option Nat × ((Nat → Int32) × (Nat × (Nat × (Nat → Int32))))} (k : ∀ f, TxP f 804 n Z.2.2.1 Z.2.2.2.1 Bu Z.2.2.2.2 → Sim f 33 Z.2.1 K2 → Fz h.1 f → Q (.inl (some (.int (optI Z.1)))) (f, h.2)) : ∀ (m : Nat) (i : Nat) (m1 : Nat) (p1 : Nat) (c1 : Nat) (nu1 : Nat → Int32) (G1 : Nat → Int32) (K1 : Nat) (f : Nat → Option XE), v - i < m → (i + m1 = v) → (exC Bu n m1 i p1 c1 nu1 G1 = Z) → (p1 ≤ n) → (TxP f 804 n p1 c1 Bu nu1) → (Sim f 33 G1 K1) → (K1 + m1 ≤ K2) → (Fz h.1 f) → xP S (d + 6) 144 9 [(0, .ref 32), (1, .int (nI v)), (2, .int (nI i))] [] (f, h.2) Q := by
  intro m
  induction m with
  | zero => intro i m1 p1 c1 nu1 G1 K1 f hm; exact absurd hm (Nat.not_lt_zero _)
  | succ m ih =>
    intro i m1 p1 c1 nu1 G1 K1 f hm hv hz hp1 hT1 hS1 hK1 hF
    obtain ⟨t1, t2, t3, t4, t5, t6⟩ := id hT1
    have o1 := (hF 32 (by omega)).trans o0
    refine xs_f 10 r_144_9 rfl ?_
    refine xs_f 11 r_144_10 rfl ?_
    refine xs_if 60 14 r_144_11 rfl (fun hc1 => ?_) (fun hc1 => ?_)
    · have hc1 := (nI_leN rfl rfl (by omega) (by omega)).mp hc1
      refine xs_f 61 r_144_60 rfl ?_
      refine xs_ret r_144_61 rfl ?_
      have e8 : m1 = 0 := by omega
      subst e8
      have e9 : Z = (none, (G1, (p1, (c1, nu1)))) := hz.symm
      rw [e9] at k
      exact k f hT1 (hS1.up (by omega)) hF
    · have hc1 := mt (nI_leN rfl rfl (by omega) (by omega)).mpr hc1
      obtain ⟨m9, rfl⟩ : ∃ m9, m1 = m9 + 1 := ⟨m1 - 1, by omega⟩
      refine xs_f 15 r_144_14 rfl ?_
      refine xs_get 18 r_144_15 rfl rfl (by first | assumption | exact xup_s | exact o1 | exact t1 | (refine (xup_n (by omega)).trans ?_; first | assumption | exact xup_s | exact o1 | exact t1) | (refine (xup_n (by omega)).trans ((xup_n (by omega)).trans ?_); first | assumption | exact xup_s | exact o1 | exact t1) | (refine (xup_n (by omega)).trans ((xup_n (by omega)).trans ((xup_n (by omega)).trans ?_)); first | assumption | exact xup_s | exact o1 | exact t1)) (by rfl) ?_
      refine xs_call (lv2 := [(0, _)]) r_144_18 rfl rfl (by decide) (xcan_0 rfl rfl (by first | assumption | exact xup_s | exact o1 | exact t1 | (refine (xup_n (by omega)).trans ?_; first | assumption | exact xup_s | exact o1 | exact t1) | (refine (xup_n (by omega)).trans ((xup_n (by omega)).trans ?_); first | assumption | exact xup_s | exact o1 | exact t1) | (refine (xup_n (by omega)).trans ((xup_n (by omega)).trans ((xup_n (by omega)).trans ?_)); first | assumption | exact xup_s | exact o1 | exact t1)) (by rfl)) rfl (e_43 (h := (f, h.2)) hT1 (by omega) hp1 (fun f2 x2 q2 y2 => ?_))
      refine xK_v rfl ?_
      have y12 := hF.tr (Fz.t y2 (by omega) (by omega))
      have hS2 := hS1.fr (g := f2) (fun c c1 c2 => y2 c (by omega))
      cases hA : (rdA Bu n p1 6 0 p1 c1 nu1).1 with
      | none =>
        have e9 : Z = (some i, (G1, (rdA Bu n p1 6 0 p1 c1 nu1).2)) := by
          rw [← hz, exC_s, hA]
        rw [e9] at k
        refine xs_f 22 (lv2 := [(3, _), (0, _), (1, _), (2, _)]) r_144_21 rfl ?_
        refine xs_f 23 r_144_22 rfl ?_
        refine xs_f 37 r_144_23 rfl ?_
        refine xs_f 38 r_144_37 rfl ?_
        refine xs_ret r_144_38 rfl ?_
        exact k f2 x2 (hS2.up (by omega)) y12
      | some j9 =>
        obtain ⟨mn9, np, no, nn, N, sc, ho, TS, TH, tr, pl, q, s, R, hB2, hr0, hk2, hN2, hs2⟩ := hS2
        obtain ⟨hr2, en, eo, es⟩ := hr0.nm (by omega)
        subst en
        subst eo
        subst es
        have hj : j9 < 6 := by
          have := rdA_lt hA
          omega
        have o2 := (y12 32 (by omega)).trans o0
        have ot2 := x2.1
        have ef : (fltC (npG G1) (noG G1) pl q (nmC (rdA Bu n p1 6 0 p1 c1 nu1).2.2.1 (rdA Bu n p1 6 0 p1 c1 nu1).2.2.2) j9) = flG G1 (nmC (rdA Bu n p1 6 0 p1 c1 nu1).2.2.1 (rdA Bu n p1 6 0 p1 c1 nu1).2.2.2) j9 := fltC_cong (by have := hr2.1.1.2; omega) hr2.2.2.2.1 hr2.2.2.2.2.1 _ _
        refine xs_f 22 (lv2 := [(3, _), (0, _), (1, _), (2, _)]) r_144_21 rfl ?_
        refine xs_f 23 r_144_22 rfl ?_
        refine xs_f 26 r_144_23 rfl ?_
        refine xs_f 27 r_144_26 rfl ?_
        refine xs_f 28 r_144_27 rfl ?_
        refine xs_call (lv2 := [(0, _), (1, _)]) r_144_28 rfl rfl (by decide) (xcan_0 rfl rfl (by first | assumption | exact xup_s | exact o2 | exact ot2 | (refine (xup_n (by omega)).trans ?_; first | assumption | exact xup_s | exact o2 | exact ot2) | (refine (xup_n (by omega)).trans ((xup_n (by omega)).trans ?_); first | assumption | exact xup_s | exact o2 | exact ot2) | (refine (xup_n (by omega)).trans ((xup_n (by omega)).trans ((xup_n (by omega)).trans ?_)); first | assumption | exact xup_s | exact o2 | exact ot2)) (by rfl)) rfl (e_145 (h := (f2, h.2)) o2 hB2 x2 hj ?_)
        refine xK_v rfl ?_
        refine xs_gst 34 r_144_31 rfl ?_
        by_cases hz0 : (fltC (npG G1) (noG G1) pl q (nmC (rdA Bu n p1 6 0 p1 c1 nu1).2.2.1 (rdA Bu n p1 6 0 p1 c1 nu1).2.2.2) j9) = 0
        · rw [hz0]
          refine xs_f 39 r_144_34 rfl ?_
          refine xs_f 40 r_144_39 rfl ?_
          refine xs_f 41 r_144_40 rfl ?_
          refine xs_call (lv2 := [(0, _), (1, _)]) r_144_41 rfl rfl (by decide) (xcan_0 rfl rfl (by first | assumption | exact xup_s | exact o2 | exact ot2 | exact o3 | exact ot3 | (refine (xup_n (by omega)).trans ?_; first | assumption | exact xup_s | exact o2 | exact ot2 | exact o3 | exact ot3) | (refine (xup_n (by omega)).trans ((xup_n (by omega)).trans ?_); first | assumption | exact xup_s | exact o2 | exact ot2 | exact o3 | exact ot3) | (refine (xup_n (by omega)).trans ((xup_n (by omega)).trans ((xup_n (by omega)).trans ?_)); first | assumption | exact xup_s | exact o2 | exact ot2 | exact o3 | exact ot3)) (by rfl)) rfl (e_146 (h := (f2, h.2)) (K := K1) o2 hB2 hr2 hk2 hN2 hs2 (by omega) x2 hj hz0 (fun f3 s3 y3 => ?_))
          refine xK_0 rfl ?_
          have o3 := (y3 32 (by omega)).trans o2
          have hT3 := x2.fr (g := f3) (fun c c1 c2 => y3 c (by omega))
          have ot3 := hT3.1
          refine xs_f 45 r_144_44 rfl ?_
          refine xs_get 48 r_144_45 rfl rfl (by first | assumption | exact xup_s | exact o2 | exact ot2 | exact o3 | exact ot3 | (refine (xup_n (by omega)).trans ?_; first | assumption | exact xup_s | exact o2 | exact ot2 | exact o3 | exact ot3) | (refine (xup_n (by omega)).trans ((xup_n (by omega)).trans ?_); first | assumption | exact xup_s | exact o2 | exact ot2 | exact o3 | exact ot3) | (refine (xup_n (by omega)).trans ((xup_n (by omega)).trans ((xup_n (by omega)).trans ?_)); first | assumption | exact xup_s | exact o2 | exact ot2 | exact o3 | exact ot3)) (by rfl) ?_
          refine xs_f 50 r_144_48 rfl ?_
          refine xs_call (lv2 := [(0, _), (1, _)]) r_144_50 rfl rfl (by decide) (xcan_0 rfl rfl (by first | assumption | exact xup_s | exact o2 | exact ot2 | exact o3 | exact ot3 | (refine (xup_n (by omega)).trans ?_; first | assumption | exact xup_s | exact o2 | exact ot2 | exact o3 | exact ot3) | (refine (xup_n (by omega)).trans ((xup_n (by omega)).trans ?_); first | assumption | exact xup_s | exact o2 | exact ot2 | exact o3 | exact ot3) | (refine (xup_n (by omega)).trans ((xup_n (by omega)).trans ((xup_n (by omega)).trans ?_)); first | assumption | exact xup_s | exact o2 | exact ot2 | exact o3 | exact ot3)) (by rfl)) rfl (e_44 (h := (f3, h.2)) hT3 (by omega) (fun l9 b9 f4 x4 y4 => ?_) (fun l9 => ?_))
          · have e9 : exC Bu n m9 (i + 1) ((rdA Bu n p1 6 0 p1 c1 nu1).2.1 + 1) (rdA Bu n p1 6 0 p1 c1 nu1).2.2.1 (rdA Bu n p1 6 0 p1 c1 nu1).2.2.2 (gcG G1 (nmC (rdA Bu n p1 6 0 p1 c1 nu1).2.2.1 (rdA Bu n p1 6 0 p1 c1 nu1).2.2.2) j9) = Z := by
              rw [← hz, exC_s, hA]
              show _ = (if _ then _ else _)
              rw [if_pos (show flG G1 (nmC (rdA Bu n p1 6 0 p1 c1 nu1).2.2.1 (rdA Bu n p1 6 0 p1 c1 nu1).2.2.2) j9 = 0 by rw [← ef]; exact hz0), if_pos ⟨l9, b9⟩]
            have x5 := x4
            have s5 := s3.fr (g := f4) (fun c c1 c2 => y4 c (by omega))
            have q5 : (rdA Bu n p1 6 0 p1 c1 nu1).2.1 + 1 ≤ n := l9
            have y5 := (y12.tr (Fz.b y3)).tr (Fz.t y4 (by omega) (by omega))
            refine xK_v rfl ?_
            refine xs_f 54 r_144_53 rfl ?_
            refine xs_f 57 (lv2 := [(2, _), (3, _), (0, _), (1, _)]) r_144_54 rfl ?_
            refine xs_f 9 r_144_57 rfl ?_
            exact xP_lv [(0, .ref 32), (1, .int (nI v)), (2, .int (nI (i + 1)))] rfl ⟨rfl, rfl, (by rw [nI_succ]; rfl), trivial⟩ (ih (i + 1) m9 _ _ _ _ (K1 + 1) _ (by omega) (by omega) e9 q5 x5 s5 (by omega) y5)
          · have e9 : exC Bu n m9 (i + 1) (rdA Bu n p1 6 0 p1 c1 nu1).2.1 (rdA Bu n p1 6 0 p1 c1 nu1).2.2.1 (rdA Bu n p1 6 0 p1 c1 nu1).2.2.2 (gcG G1 (nmC (rdA Bu n p1 6 0 p1 c1 nu1).2.2.1 (rdA Bu n p1 6 0 p1 c1 nu1).2.2.2) j9) = Z := by
              rw [← hz, exC_s, hA]
              show _ = (if _ then _ else _)
              rw [if_pos (show flG G1 (nmC (rdA Bu n p1 6 0 p1 c1 nu1).2.2.1 (rdA Bu n p1 6 0 p1 c1 nu1).2.2.2) j9 = 0 by rw [← ef]; exact hz0), if_neg l9]
            have x5 := hT3
            have s5 := s3
            have q5 := q2
            have y5 := y12.tr (Fz.b y3)
            refine xK_v rfl ?_
            refine xs_f 54 r_144_53 rfl ?_
            refine xs_f 57 (lv2 := [(2, _), (3, _), (0, _), (1, _)]) r_144_54 rfl ?_
            refine xs_f 9 r_144_57 rfl ?_
            exact xP_lv [(0, .ref 32), (1, .int (nI v)), (2, .int (nI (i + 1)))] rfl ⟨rfl, rfl, (by rw [nI_succ]; rfl), trivial⟩ (ih (i + 1) m9 _ _ _ _ (K1 + 1) _ (by omega) (by omega) e9 q5 x5 s5 (by omega) y5)
        · have e9 : Z = (some i, (G1, (rdA Bu n p1 6 0 p1 c1 nu1).2)) := by
            rw [← hz, exC_s, hA]
            exact if_neg (by rw [← ef]; exact hz0)
          rw [e9] at k
          refine xs_f 37 r_144_34 (by show xgoB _ (xcma 12 .eq _ _ _) = _; rw [xcma_ne fltC_le hz0]; rfl) ?_
          refine xs_f 38 r_144_37 rfl ?_
          refine xs_ret r_144_38 rfl ?_
          exact k f2 x2 (Sim.up (f := f2) (b := 33) (G := G1) (K := K1) ⟨_, _, _, _, _, _, _, _, _, _, _, _, _, _, hB2, hr2, hk2, hN2, hs2⟩ (by omega)) y12

theorem e_144 {S : XSc} {d : Nat} {h : XH} {Q : XO → XH → Prop} {i1 i2 i3 : Int32} (o0 : h.1 32 = some (.inr (8, [.ref 33, .ref 102, .ref 171, .ref 794, .ref 804, .ref 807, .int i1, .int i2, .int i3]))) {n p c : Nat} {Bu nu : Nat → Int32} (hT : TxP h.1 804 n p c Bu nu) {v K K2 : Nat} {G : Nat → Int32} (hS : Sim h.1 33 G K) (hv60 : v ≤ 100) (hK2 : K2 ≤ 1000) (hK : K + v ≤ K2) {Z : Option Nat × ((Nat → Int32) × (Nat × (Nat × (Nat → Int32))))} (hz : exC Bu n v 0 0 c nu G = Z) (k : ∀ f, TxP f 804 n Z.2.2.1 Z.2.2.2.1 Bu Z.2.2.2.2 → Sim f 33 Z.2.1 K2 → Fz h.1 f → Q (.inl (some (.int (optI Z.1)))) (f, h.2)) : xP S (d + 6) 144 0 [(0, .ref 32), (1, .int (nI v))] [] h Q := by
  have t1 := hT.1
  refine xs_f 1 r_144_0 rfl ?_
  refine xs_get 4 r_144_1 rfl rfl (by first | assumption | exact xup_s | exact o0 | exact t1 | (refine (xup_n (by omega)).trans ?_; first | assumption | exact xup_s | exact o0 | exact t1) | (refine (xup_n (by omega)).trans ((xup_n (by omega)).trans ?_); first | assumption | exact xup_s | exact o0 | exact t1) | (refine (xup_n (by omega)).trans ((xup_n (by omega)).trans ((xup_n (by omega)).trans ?_)); first | assumption | exact xup_s | exact o0 | exact t1)) (by rfl) ?_
  refine xs_call (lv2 := [(0, _)]) r_144_4 rfl rfl (by decide) (xcan_0 rfl rfl (by first | assumption | exact xup_s | exact o0 | exact t1 | (refine (xup_n (by omega)).trans ?_; first | assumption | exact xup_s | exact o0 | exact t1) | (refine (xup_n (by omega)).trans ((xup_n (by omega)).trans ?_); first | assumption | exact xup_s | exact o0 | exact t1) | (refine (xup_n (by omega)).trans ((xup_n (by omega)).trans ((xup_n (by omega)).trans ?_)); first | assumption | exact xup_s | exact o0 | exact t1)) (by rfl)) rfl (e_39 hT (by omega) (fun f1 x1 y1 => ?_))
  refine xK_0 rfl ?_
  refine xs_f 8 r_144_7 rfl ?_
  refine xs_f 9 (lv2 := [(2, _), (0, _), (1, _)]) r_144_8 rfl ?_
  exact xP_lv [(0, .ref 32), (1, .int (nI v)), (2, .int (nI 0))] rfl ⟨rfl, rfl, rfl, trivial⟩ (el_144 o0 hv60 hK2 k (v + 1) 0 v 0 c nu G K f1 (by omega) (by omega) hz (Nat.zero_le _) x1 (hS.fr (fun c c1 c2 => y1 c (by omega))) hK (Fz.t y1 (by omega) (by omega)))

