/-! the class refuses -/
theorem e_135_0 {S : XSc} {d : Nat} {h : XH} {Q : XO → XH → Prop} (k : Q (.inl none) h) : xP S d 135 0 [(0, .ref 0)] [] h Q := by
  refine xs_gst 3 r_135_0 rfl ?_
  refine xs_f 4 r_135_3 rfl ?_
  refine xs_ext 7 r_135_4 rfl rfl rfl rfl ?_
  refine xs_ald 8 0 r_135_7 (fun _ _ => rfl) rfl rfl rfl (j := 0) rfl (xarr_r rfl rfl) rfl (by omega) (by omega) rfl ?_
  refine xs_f 98 r_135_8 rfl ?_
  refine xs_ret r_135_98 rfl ?_
  exact k

theorem e_135_1 {S : XSc} {d : Nat} {h : XH} {Q : XO → XH → Prop} (k : Q (.inr 2) (xbump h)) : xP S d 135 0 [(0, .ref 1)] [] h Q := by
  refine xs_gst 3 r_135_0 rfl ?_
  refine xs_f 4 r_135_3 rfl ?_
  refine xs_ext 7 r_135_4 rfl rfl rfl rfl ?_
  refine xs_ald 8 0 r_135_7 (fun _ _ => rfl) rfl rfl rfl (j := 1) rfl (xarr_r rfl rfl) rfl (by omega) (by omega) rfl ?_
  refine xs_f 44 r_135_8 rfl ?_
  refine xs_thr r_135_44 rfl ?_
  exact k

theorem e_135_2 {S : XSc} {d : Nat} {h : XH} {Q : XO → XH → Prop} (k : Q (.inr 5) (xbump h)) : xP S d 135 0 [(0, .ref 2)] [] h Q := by
  refine xs_gst 3 r_135_0 rfl ?_
  refine xs_f 4 r_135_3 rfl ?_
  refine xs_ext 7 r_135_4 rfl rfl rfl rfl ?_
  refine xs_ald 8 0 r_135_7 (fun _ _ => rfl) rfl rfl rfl (j := 2) rfl (xarr_r rfl rfl) rfl (by omega) (by omega) rfl ?_
  refine xs_f 55 r_135_8 rfl ?_
  refine xs_thr r_135_55 rfl ?_
  exact k

theorem e_135_3 {S : XSc} {d : Nat} {h : XH} {Q : XO → XH → Prop} (k : Q (.inr 1) (xbump h)) : xP S d 135 0 [(0, .ref 3)] [] h Q := by
  refine xs_gst 3 r_135_0 rfl ?_
  refine xs_f 4 r_135_3 rfl ?_
  refine xs_ext 7 r_135_4 rfl rfl rfl rfl ?_
  refine xs_ald 8 0 r_135_7 (fun _ _ => rfl) rfl rfl rfl (j := 3) rfl (xarr_r rfl rfl) rfl (by omega) (by omega) rfl ?_
  refine xs_f 65 r_135_8 rfl ?_
  refine xs_thr r_135_65 rfl ?_
  exact k

theorem e_135_4 {S : XSc} {d : Nat} {h : XH} {Q : XO → XH → Prop} (k : Q (.inr 4) (xbump h)) : xP S d 135 0 [(0, .ref 4)] [] h Q := by
  refine xs_gst 3 r_135_0 rfl ?_
  refine xs_f 4 r_135_3 rfl ?_
  refine xs_ext 7 r_135_4 rfl rfl rfl rfl ?_
  refine xs_ald 8 0 r_135_7 (fun _ _ => rfl) rfl rfl rfl (j := 4) rfl (xarr_r rfl rfl) rfl (by omega) (by omega) rfl ?_
  refine xs_f 76 r_135_8 rfl ?_
  refine xs_thr r_135_76 rfl ?_
  exact k

theorem e_135_5 {S : XSc} {d : Nat} {h : XH} {Q : XO → XH → Prop} (k : Q (.inr 0) (xbump h)) : xP S d 135 0 [(0, .ref 5)] [] h Q := by
  refine xs_gst 3 r_135_0 rfl ?_
  refine xs_f 4 r_135_3 rfl ?_
  refine xs_ext 7 r_135_4 rfl rfl rfl rfl ?_
  refine xs_ald 8 0 r_135_7 (fun _ _ => rfl) rfl rfl rfl (j := 5) rfl (xarr_r rfl rfl) rfl (by omega) (by omega) rfl ?_
  refine xs_f 87 r_135_8 rfl ?_
  refine xs_thr r_135_87 rfl ?_
  exact k

def fE (x : Nat) : Nat := match x with
  | 1 => 2
  | 2 => 5
  | 3 => 1
  | 4 => 4
  | _ => 0
theorem e_135 {S : XSc} {d : Nat} {h : XH} {Q : XO → XH → Prop} {x : Nat} (hx : x ≤ 5) (k0 : x = 0 → Q (.inl none) h) (k1 : x ≠ 0 → Q (.inr (fE x)) (xbump h)) : xP S d 135 0 [(0, .ref x)] [] h Q :=
  match x, hx, k0, k1 with
  | 0, _, k0, _ => e_135_0 (k0 rfl)
  | 1, _, _, k1 => e_135_1 (k1 (by omega))
  | 2, _, _, k1 => e_135_2 (k1 (by omega))
  | 3, _, _, k1 => e_135_3 (k1 (by omega))
  | 4, _, _, k1 => e_135_4 (k1 (by omega))
  | 5, _, _, k1 => e_135_5 (k1 (by omega))
  | x + 6, hx, _, _ => absurd hx (by omega)
/-! a board that shows what the reference's row shows -/
theorem RG.cg {G : Nat → Int32} {mn : Nat → Nat} {np no : Nat} {nn : Int32} {sc : Nat} {ho : Int32} {tr : Nat → Int32} {pl pl3 : Nat → XPl} {q q3 : Nat → XQu} (h : RG G mn np no nn sc ho tr pl q) (h1 : ∀ i, i < np → pl3 i = pl i) (h2 : ∀ i, i < no → eqQ (q3 i) (q i)) : RG G mn np no nn sc ho tr pl3 q3 := by
  obtain ⟨a, b, c, r5, r6, z⟩ := h
  exact ⟨a, b, c, fun i hi => by rw [h1 i hi]; exact r5 i hi, fun i hi => (h2 i hi).tr (r6 i hi), z⟩
theorem okQu.cg {np N : Nat} {x y : XQu} (h : okQu np N x) (e : eqQ y x) : okQu np N y := by
  obtain ⟨a1, a2, a3, a4, a5⟩ := h
  obtain ⟨e1, e2, e3, e4⟩ := e
  refine ⟨by rw [e3]; exact a1, by rw [e1]; exact a2, by rw [e2]; exact a3, fun r hr => ?_, fun r s hrs hs => ?_⟩
  · rw [e3] at hr
    rw [e4 r hr]
    exact a4 r hr
  · rw [e3] at hs
    rw [e4 r (by omega), e4 s hs]
    exact a5 r s hrs hs
theorem OKc.cg {np no : Nat} {nn : Int32} {N sc : Nat} {ho : Int32} {TS TH : Nat → Int32} {pl pl3 : Nat → XPl} {q q3 : Nat → XQu} (h : OKc np no nn N sc ho TS TH pl q) (h1 : ∀ i, i < np → pl3 i = pl i) (h2 : ∀ i, i < no → eqQ (q3 i) (q i)) : OKc np no nn N sc ho TS TH pl3 q3 := by
  obtain ⟨a, b, c, e, g⟩ := h
  refine ⟨a, fun i hi => (b i hi).cg (h2 i hi), ?_, fun j hj => ?_, fun i hi => by rw [h1 i hi]; exact g i hi⟩
  · unfold sumC at c ⊢
    rw [xsum_eq (f := fun i => (pl3 i).1) (g := fun i => (pl i).1) (fun i hi => by rw [h1 i hi]), xsum_eq (f := fun i => stkQ (q3 i)) (g := fun i => stkQ (q i)) (fun i hi => stkQ_eqQ (h2 i hi))]
    exact c
  · rw [xsum_eq (f := fun i => (pl3 i).2.2.2.1 j) (g := fun i => (pl i).2.2.2.1 j) (fun i hi => by rw [h1 i hi]), xsum_eq (f := fun i => (pl3 i).2.2.2.2 j) (g := fun i => (pl i).2.2.2.2 j) (fun i hi => by rw [h1 i hi])]
    exact e j hj
theorem RG.ext {G H : Nat → Int32} {mn : Nat → Nat} {np no : Nat} {nn : Int32} {sc : Nat} {ho : Int32} {tr : Nat → Int32} {pl : Nat → XPl} {q : Nat → XQu} (h : RG G mn np no nn sc ho tr pl q) (e : ∀ x, x < 288 → H x = G x) : RG H mn np no nn sc ho tr pl q := by
  obtain ⟨⟨⟨g0, g5⟩, ⟨g1, g6⟩, gm⟩, ⟨r1, r2, r3⟩, r4, r5, r6, r7⟩ := h
  exact ⟨⟨⟨(e _ (by omega)).trans g0, g5⟩, ⟨(e _ (by omega)).trans g1, g6⟩, fun i hi => ⟨(e _ (by omega)).trans (gm i hi).1, (gm i hi).2⟩⟩, ⟨(e _ (by omega)).trans r1, (e _ (by omega)).trans r2, (e _ (by omega)).trans r3⟩, fun j hj => (r4 j hj).trans (gT_ext (fun x h1 h2 => e x (by omega)) sc j).symm, fun i hi => (r5 i hi).tr (gP_all (by omega) (fun x h1 h2 => e x (by omega))).symm, fun i hi => (r6 i hi).tr (gQ_ext (e _ (by omega)) (e _ (by omega)) rfl (gm i (by omega)).2 (fun x hx => e _ (by omega))).symm, zrG_ext r7 (Nat.le_refl _) (fun x hx => e x (by omega))⟩
/-- the board at b shows the row G; no more than K questions were asked or settled -/
def Sim (f : Nat → Option XE) (b : Nat) (G : Nat → Int32) (K : Nat) : Prop := ∃ mn np no nn N sc ho TS TH tr pl q s R, BdP f b np no nn sc ho TS TH tr pl q s R ∧ RG G mn np no nn sc ho tr pl q ∧ OKc np no nn N sc ho TS TH pl q ∧ N ≤ K ∧ sc ≤ K
theorem Sim.fr {f g : Nat → Option XE} {b K : Nat} {G : Nat → Int32} (h : Sim f b G K) (e : ∀ c, b ≤ c → c < b + 69 → g c = f c) : Sim g b G K := by
  obtain ⟨mn, np, no, nn, N, sc, ho, TS, TH, tr, pl, q, s, R, hB, hr⟩ := h
  exact ⟨mn, np, no, nn, N, sc, ho, TS, TH, tr, pl, q, s, R, hB.fr e, hr⟩
theorem Sim.ext {f : Nat → Option XE} {b K : Nat} {G H : Nat → Int32} (h : Sim f b G K) (e : ∀ x, x < 288 → H x = G x) : Sim f b H K := by
  obtain ⟨mn, np, no, nn, N, sc, ho, TS, TH, tr, pl, q, s, R, hB, hr, ho, hN, hs⟩ := h
  exact ⟨mn, np, no, nn, N, sc, _, TS, TH, tr, pl, q, s, R, hB, hr.ext e, ho, hN, hs⟩
theorem Sim.up {f : Nat → Option XE} {b K M : Nat} {G : Nat → Int32} (h : Sim f b G K) (e : K ≤ M) : Sim f b G M := by
  obtain ⟨mn, np, no, nn, N, sc, ho, TS, TH, tr, pl, q, s, R, hB, hr, ho, hN, hs⟩ := h
  exact ⟨mn, np, no, nn, N, sc, _, TS, TH, tr, pl, q, s, R, hB, hr, ho, by omega, by omega⟩
theorem c_11s {S : XSc} {d : Nat} {h : XH} {Q : XO → XH → Prop} {b c K : Nat} {G H : Nat → Int32} (hB : Sim h.1 b G K) (hC : Sim h.1 c H K) (h32 : 32 ≤ b) (h33 : 32 ≤ c) (hbc : b + 69 ≤ c ∨ c + 69 ≤ b) (k : ∀ f, Sim f b H K → Fr h.1 f b (b + 69) → Q (.inl none) (f, h.2)) : xP S (d + 3) 11 0 [(0, .ref b), (1, .ref c)] [] h Q := by
  obtain ⟨mn, np, no, nn, N, sc, ho, TS, TH, tr, pl, q, s, R, hB, -⟩ := hB
  obtain ⟨mn2, np2, no2, nn2, N2, sc2, ho2, TS2, TH2, tr2, pl2, q2, s2, R2, hC, hr2, hk2, hl⟩ := hC
  exact c_11 hB hC h32 h33 hbc (fun f pl3 q3 R3 x e1 e2 y => k f ⟨_, _, _, _, _, _, _, _, _, _, _, _, _, _, x, hr2.cg e1 e2, hk2.cg e1 e2, hl⟩ y)
theorem Sim.o {f : Nat → Option XE} {b K : Nat} {G : Nat → Int32} (h : Sim f b G K) : ∃ fs, f b = some (.inr (1, fs)) := by
  obtain ⟨mn, np, no, nn, N, sc, ho, TS, TH, tr, pl, q, s, R, hB, -⟩ := h
  exact ⟨_, hB.1⟩
