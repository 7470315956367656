/-! the law's digest of a contest -/
def itr (f : Nat → Int32 → Int32) : Nat → Int32 → Int32
  | 0, v => v
  | n + 1, v => f n (itr f n v)
theorem itr_z {f : Nat → Int32 → Int32} {v : Int32} : itr f 0 v = v := rfl
def dgW (G : Nat → Int32) (k : Nat) : Int32 := if (R_pl (npG G) (nI k) (fun i => bI ((gP G) i).2.2.1)).2 = 0 then 0 else 1
def dgP (G : Nat → Int32) (k : Nat) (v : Int32) : Int32 := 31 * (31 * (31 * (31 * (31 * v + (R_pl (npG G) (nI k) (fun i => ((gP G) i).1)).2) + dgW G k) + (R_pl (npG G) (nI k) (fun i => ((gP G) i).2.1)).2) + (R_pl (npG G) (nI k) (fun i => htP ((gP G) i))).2) + (R_pl (npG G) (nI k) (fun i => errP ((gP G) i))).2
def dgB (G : Nat → Int32) (k : Nat) (v : Int32) : Int32 := 31 * (31 * v + (R_bin (fun j => xsum (fun i => G (30 + 9 * i + j - 1)) (npG G)) (nI (k + 1))).2) + (R_bin (fun j => xsum (fun i => G (75 + 9 * i + j - 1)) (npG G)) (nI (k + 1))).2
def dgN (G : Nat → Int32) (k : Nat) : Int32 := (R_pl (noG G) (nI k) (fun i => ((gQ G (mnG G)) i).1)).2
def dgE (G : Nat → Int32) (n : Int32) (r : Nat) (v : Int32) : Int32 := itr (fun j v => 31 * v + eV G n r j) 5 v
def dgC (G : Nat → Int32) (n : Int32) : Nat := mnG G (pla (gQ G (mnG G)) (noG G) n)
def dgQ1 (G : Nat → Int32) (k : Nat) (v : Int32) : Int32 := 31 * (31 * v + dgN G k) + (R_q (gQ G (mnG G)) (noG G) (dgN G k) (fun q => q.2.1)).2
def dgQ (G : Nat → Int32) (k : Nat) (v : Int32) : Int32 := itr (dgE G (dgN G k)) (dgC G (dgN G k)) (dgQ1 G k v)
def dg0 (G : Nat → Int32) : Int32 := 31 * (31 * G 3 + G 4) + G 1
def Dg (G : Nat → Int32) : Int32 := 31 * itr (dgQ G) (noG G) (itr (dgB G) 9 (itr (dgP G) (npG G) (dg0 G))) + G 0
theorem xconf_k : ∀ k, k < 9 → xconf (nI (k + 1)) := fun k hk => xconf_j (by omega) (by omega)
theorem R_bin_k {k : Nat} (h : k < 9) (f : Nat → Int32) : (R_bin f (nI (k + 1))).1 = 0 := by
  unfold R_bin
  rw [if_pos (xconf_k k h)]
theorem Gd.num {G : Nat → Int32} (g : Gd G) {k : Nat} (h : k < noG G) : (R_pl (noG G) (nI k) (fun i => ((gQ G (mnG G)) i).1)).1 = 0 ∧ pla (gQ G (mnG G)) (noG G) (dgN G k) < noG G := by
  have h6 := g.2.1.2
  have e : R_pl (noG G) (nI k) (fun i => ((gQ G (mnG G)) i).1) = (0, ((gQ G (mnG G)) k).1) := R_pl_k h h6 _
  refine ⟨by rw [e], ?_⟩
  unfold dgN
  rw [e]
  exact pla_k h
theorem R_q_k {q : Nat → XQu} {no : Nat} {n : Int32} (h : pla q no n < no) (f : XQu → Int32) : R_q q no n f = (0, f (q (pla q no n))) := by
  unfold R_q
  rw [if_pos h]
section HH
variable {S : XSc} {d B b : Nat} {h : XH} {F : Nat → Prop} {Q : XO → XH → Prop} {G H Sv : Nat → Int32} {ch : Nat} {sv : Bool} {ea fa : Int32} {tn : Nat} {Bu : Nat → Int32}
theorem lp_166  {h0 : XH} {Fs : Nat → Prop} {a cnt : Nat} {n : Int32} (g : Gd G) (hn : pla (gQ G (mnG G)) (noG G) n < noG G) (hc : cnt = dgC G n) (h5 : cnt ≤ 5) (k : ∀ h2 F2 E lim, AtC h2 b F2 (Ca B G H Sv ch sv ea fa tn Bu) → MvC h0 h2 Fs F2 6 30 → EsI h0 h2 F2 a cnt E cnt G n lim → Q (.inl (some (.ref a))) h2) : ∀ (m : Nat) (r : Nat) (h1 : XH) (F1 : Nat → Prop) (E1 : Nat → Option Nat) (lim1 : Nat), cnt + 1 - r < m → (r ≤ cnt) → (AtC h1 b F1 (Ca B G H Sv ch sv ea fa tn Bu)) → (MvC h0 h1 Fs F1 (1 + r) (5 + 5 * r)) → (EsI h0 h1 F1 a cnt E1 r G n lim1) → yP S (d + 8) 166 11 [(0, .ref b), (1, .int n), (2, .ref a), (3, .int (nI r))] [] h1 Q := by
  intro m
  induction m with
  | zero => intro r h1 F1 E1 lim1 hm; exact absurd hm (Nat.not_lt_zero _)
  | succ m ih =>
    intro r h1 F1 E1 lim1 hm hr A1 M1 I1
    obtain ⟨gs, o0⟩ := A1.cell (fun c z => z.o)
    refine ys_f 12 r_166_11 rfl ?_
    refine ys_f 13 r_166_12 rfl ?_
    refine ys_len 14 r_166_13 rfl (yarr_h (by have := I1.2.1.1.1; omega) I1.1) ?_
    refine ys_if 82 17 r_166_14 rfl (fun hc1 => ?_) (fun hc1 => ?_)
    · have hc1 := (nI_leN rfl rfl (by omega) (by omega)).mp hc1
      refine ys_f 83 r_166_82 rfl ?_
      refine ys_ret r_166_83 rfl ?_
      have e9 : r = cnt := by omega
      subst e9
      exact k _ _ _ _ A1 (M1.le (by omega) (by omega)) I1
    · have hc1 := mt (nI_leN rfl rfl (by omega) (by omega)).mpr hc1
      have hz := g.est hn (r := r) (show r < dgC G n by omega)
      refine ys_f 18 r_166_17 rfl ?_
      refine ys_f 19 r_166_18 rfl ?_
      refine ys_f 20 r_166_19 rfl ?_
      refine ys_call (lv2 := [(0, _), (1, _), (2, _)]) r_166_20 rfl rfl (by decide) (xcan_0 rfl rfl (by first | assumption) (by rfl)) rfl (qa_100 A1 hz.1 (fun h21 F21 A21 M21 => ?_))
      obtain ⟨gs21, o21⟩ := A21.cell (fun c z => z.o)
      have N21 := M1.tr M21
      have i21 := I1.mv M21
      refine yK_v rfl ?_
      refine ys_f 25 (lv2 := [(4, _), (0, _), (1, _), (2, _), (3, _)]) r_166_23 rfl ?_
      refine ys_f 26 r_166_25 rfl ?_
      refine ys_f 27 r_166_26 rfl ?_
      refine ys_f 28 r_166_27 rfl ?_
      refine es_new 30 r_166_28 rfl A21 N21 i21 (fun hh5 c A5 M5 I5 R5 => ?_)
      obtain ⟨gs5, o5⟩ := A5.cell (fun c z => z.o)
      refine ys_f 31 r_166_30 rfl ?_
      refine ys_f 32 r_166_31 rfl ?_
      refine ys_f 34 r_166_32 rfl ?_
      refine es_put 35 r_166_34 rfl A5 M5 I5 R5 0 rfl (by decide) (fun h60 A60 M60 I60 R60 => ?_)
      obtain ⟨gs60, o60⟩ := A60.cell (fun c z => z.o)
      refine ys_f 36 r_166_35 rfl ?_
      refine ys_f 37 r_166_36 rfl ?_
      refine ys_f 38 r_166_37 rfl ?_
      refine ys_f 40 r_166_38 rfl ?_
      refine ys_f 41 r_166_40 rfl ?_
      refine ys_call (lv2 := [(0, _), (1, _), (2, _)]) r_166_41 rfl rfl (by decide) (xcan_0 rfl rfl (by first | assumption) (by rfl)) rfl (qa_102 A60 (hz.2 _) (fun h22 F22 A22 M22 => ?_))
      obtain ⟨gs22, o22⟩ := A22.cell (fun c z => z.o)
      have N22 := M60.tr M22
      have i22 := I60.mv M22
      have r22 := R60.mv M22
      refine yK_v rfl ?_
      refine es_put 45 r_166_44 rfl A22 N22 i22 r22 1 rfl (by decide) (fun h61 A61 M61 I61 R61 => ?_)
      obtain ⟨gs61, o61⟩ := A61.cell (fun c z => z.o)
      refine ys_f 46 r_166_45 rfl ?_
      refine ys_f 47 r_166_46 rfl ?_
      refine ys_f 48 r_166_47 rfl ?_
      refine ys_f 50 r_166_48 rfl ?_
      refine ys_f 51 r_166_50 rfl ?_
      refine ys_call (lv2 := [(0, _), (1, _), (2, _)]) r_166_51 rfl rfl (by decide) (xcan_0 rfl rfl (by first | assumption) (by rfl)) rfl (qa_103 A61 (hz.2 _) (fun h23 F23 A23 M23 => ?_))
      obtain ⟨gs23, o23⟩ := A23.cell (fun c z => z.o)
      have N23 := M61.tr M23
      have i23 := I61.mv M23
      have r23 := R61.mv M23
      refine yK_v rfl ?_
      refine es_put 55 r_166_54 rfl A23 N23 i23 r23 2 rfl (by decide) (fun h62 A62 M62 I62 R62 => ?_)
      obtain ⟨gs62, o62⟩ := A62.cell (fun c z => z.o)
      refine ys_f 56 r_166_55 rfl ?_
      refine ys_f 57 r_166_56 rfl ?_
      refine ys_f 58 r_166_57 rfl ?_
      refine ys_f 60 r_166_58 rfl ?_
      refine ys_f 61 r_166_60 rfl ?_
      refine ys_call (lv2 := [(0, _), (1, _), (2, _)]) r_166_61 rfl rfl (by decide) (xcan_0 rfl rfl (by first | assumption) (by rfl)) rfl (qa_104 A62 (hz.2 _) (fun h24 F24 A24 M24 => ?_))
      obtain ⟨gs24, o24⟩ := A24.cell (fun c z => z.o)
      have N24 := M62.tr M24
      have i24 := I62.mv M24
      have r24 := R62.mv M24
      refine yK_v rfl ?_
      refine es_put 65 r_166_64 rfl A24 N24 i24 r24 3 rfl (by decide) (fun h63 A63 M63 I63 R63 => ?_)
      obtain ⟨gs63, o63⟩ := A63.cell (fun c z => z.o)
      refine ys_f 66 r_166_65 rfl ?_
      refine ys_f 67 r_166_66 rfl ?_
      refine ys_f 68 r_166_67 rfl ?_
      refine ys_f 70 r_166_68 rfl ?_
      refine ys_f 71 r_166_70 rfl ?_
      refine ys_call (lv2 := [(0, _), (1, _), (2, _)]) r_166_71 rfl rfl (by decide) (xcan_0 rfl rfl (by first | assumption) (by rfl)) rfl (qa_105 A63 (hz.2 _) (fun h25 F25 A25 M25 => ?_))
      obtain ⟨gs25, o25⟩ := A25.cell (fun c z => z.o)
      have N25 := M63.tr M25
      have i25 := I63.mv M25
      have r25 := R63.mv M25
      refine yK_v rfl ?_
      refine es_put 75 r_166_74 rfl A25 N25 i25 r25 4 rfl (by decide) (fun h64 A64 M64 I64 R64 => ?_)
      obtain ⟨gs64, o64⟩ := A64.cell (fun c z => z.o)
      refine es_row 76 r_166_75 rfl A64 M64 I64 R64 (fun j hj => ?_) (by omega) h5 (fun h7 E7 A7 M7 I7 => ?_)
      · match j, hj with
        | 0, _ => rfl
        | 1, _ => rfl
        | 2, _ => rfl
        | 3, _ => rfl
        | 4, _ => rfl
      refine ys_f 79 (lv2 := [(3, _), (4, _), (0, _), (1, _), (2, _)]) r_166_76 rfl ?_
      refine ys_f 11 r_166_79 rfl ?_
      exact yP_lv [(0, .ref b), (1, .int n), (2, .ref a), (3, .int (nI (r + 1)))] rfl ⟨rfl, rfl, rfl, (by rw [nI_succ]; rfl), trivial⟩ (ih (r + 1) _ _ _ _ (by omega) (by omega) A7 (M7.le (by omega) (by omega)) I7)

theorem la_166  (A : AtC h b F (Ca B G H Sv ch sv ea fa tn Bu)) {n : Int32} (g : Gd G) (hn : pla (gQ G (mnG G)) (noG G) n < noG G) (k : ∀ h2 F2 a E lim, AtC h2 b F2 (Ca B G H Sv ch sv ea fa tn Bu) → MvC h h2 F F2 6 30 → EsI h h2 F2 a (dgC G n) E (dgC G n) G n lim → Q (.inl (some (.ref a))) h2) : yP S (d + 8) 166 0 [(0, .ref b), (1, .int n)] [] h Q := by
  obtain ⟨gs, o0⟩ := A.cell (fun c z => z.o)
  have h5 : dgC G n ≤ 5 := (g.2.2.1 _ (by have := g.2.1.2; omega)).2
  refine ys_f 1 r_166_0 rfl ?_
  refine ys_f 2 r_166_1 rfl ?_
  refine ys_call (lv2 := [(0, _), (1, _)]) r_166_2 rfl rfl (by decide) (xcan_0 rfl rfl (by first | assumption) (by rfl)) rfl (qa_99 A (by rw [R_q_k hn]) (fun h1 F1 A1 M1 => ?_))
  obtain ⟨gs1, o1⟩ := A1.cell (fun c z => z.o)
  have N1 := M1
  refine yK_v rfl ?_
  refine es_start (G := G) (n := n) 8 r_166_5 rfl A1 N1 (cnt := dgC G n) (by rw [R_q_k hn]; rfl) h5 (fun h3 a A3 M3 I3 => ?_)
  refine ys_f 9 (lv2 := [(2, _), (0, _), (1, _)]) r_166_8 rfl ?_
  refine ys_f 10 r_166_9 rfl ?_
  refine ys_f 11 (lv2 := [(3, _), (2, _), (0, _), (1, _)]) r_166_10 rfl ?_
  exact yP_lv [(0, .ref b), (1, .int n), (2, .ref a), (3, .int (nI 0))] rfl ⟨rfl, rfl, rfl, rfl, trivial⟩ (lp_166 g hn rfl h5 (fun h4 F4 E4 l4 A4 M4 I4 => k h4 F4 a E4 l4 A4 M4 I4) (dgC G n + 2) 0 _ _ _ _ (by omega) (by omega) A3 (M3.le (by omega) (by omega)) I3)

theorem ls_23  (g : Gd G) (k : ∀ h2 F2, AtC h2 b F2 (Ca B G H Sv ch sv ea fa tn Bu) → MvC h h2 F F2 0 0 → yP S (d + 9) 165 92 [(0, .ref b), (1, .int (itr (dgP G) (npG G) (dg0 G)))] [] h2 Q) : ∀ (m : Nat) (i : Nat) (h1 : XH) (F1 : Nat → Prop), npG G + 1 - i < m → (i ≤ npG G) → (AtC h1 b F1 (Ca B G H Sv ch sv ea fa tn Bu)) → (MvC h h1 F F1 0 0) → yP S (d + 9) 165 23 [(0, .ref b), (1, .int (itr (dgP G) i (dg0 G))), (2, .int (nI i))] [] h1 Q := by
  intro m
  induction m with
  | zero => intro i h1 F1 hm; exact absurd hm (Nat.not_lt_zero _)
  | succ m ih =>
    intro i h1 F1 hm hi A1 M1
    obtain ⟨gs, o0⟩ := A1.cell (fun c z => z.o)
    refine ys_f 24 r_165_23 rfl ?_
    refine ys_f 25 r_165_24 rfl ?_
    refine ys_call (lv2 := [(0, _)]) r_165_25 rfl rfl (by decide) (xcan_0 rfl rfl (by first | assumption) (by rfl)) rfl (yP_up (show d + 7 ≤ d + 8 by omega) (qa_90 A1  (fun h21 F21 A21 M21 => ?_)))
    obtain ⟨gs21, o21⟩ := A21.cell (fun c z => z.o)
    have N21 := M1.tr M21
    refine yK_v rfl ?_
    have g5 := g.1.2
    refine ys_if 92 31 r_165_28 rfl (fun hc1 => ?_) (fun hc1 => ?_)
    · have hc1 := (nI_leN g.1.1 rfl (by omega) (by omega)).mp hc1
      have e9 : i = npG G := by omega
      subst e9
      exact yP_lv [(0, .ref b), (1, .int (itr (dgP G) (npG G) (dg0 G)))] rfl ⟨rfl, rfl, trivial⟩ (k _ _ A21 N21)
    · have hc1 := mt (nI_leN g.1.1 rfl (by omega) (by omega)).mpr hc1
      refine ys_f 33 r_165_31 rfl ?_
      refine ys_f 35 r_165_33 rfl ?_
      refine ys_f 37 r_165_35 rfl ?_
      refine ys_f 39 r_165_37 rfl ?_
      refine ys_f 41 r_165_39 rfl ?_
      refine ys_f 42 r_165_41 rfl ?_
      refine ys_f 43 r_165_42 rfl ?_
      refine ys_f 44 r_165_43 rfl ?_
      refine ys_f 45 r_165_44 rfl ?_
      refine ys_call (lv2 := [(0, _), (1, _)]) r_165_45 rfl rfl (by decide) (xcan_0 rfl rfl (by first | assumption) (by rfl)) rfl (yP_up (show d + 7 ≤ d + 8 by omega) (qa_91 A21 (by rw [R_pl_k (by omega) (by omega)]) (fun h22 F22 A22 M22 => ?_)))
      obtain ⟨gs22, o22⟩ := A22.cell (fun c z => z.o)
      have N22 := N21.tr M22
      refine yK_v rfl ?_
      refine ys_f 49 r_165_48 rfl ?_
      refine ys_f 50 r_165_49 rfl ?_
      refine ys_f 51 r_165_50 rfl ?_
      refine ys_f 52 r_165_51 rfl ?_
      refine ys_call (lv2 := [(0, _), (1, _)]) r_165_52 rfl rfl (by decide) (xcan_0 rfl rfl (by first | assumption) (by rfl)) rfl (yP_up (show d + 7 ≤ d + 8 by omega) (qa_92 A22 (by rw [R_pl_k (by omega) (by omega)]) (fun h23 F23 A23 M23 => ?_)))
      obtain ⟨gs23, o23⟩ := A23.cell (fun c z => z.o)
      have N23 := N22.tr M23
      refine yK_v rfl ?_
      refine ys_if 62 58 r_165_55 rfl (fun hw => ?_) (fun hw => ?_)
      · refine ys_f 63 r_165_62 rfl ?_
        refine ys_f 64 r_165_63 rfl ?_
        refine ys_f 65 r_165_64 rfl ?_
        refine ys_f 66 r_165_65 rfl ?_
        refine ys_f 67 r_165_66 rfl ?_
        refine ys_call (lv2 := [(0, _), (1, _)]) r_165_67 rfl rfl (by decide) (xcan_0 rfl rfl (by first | assumption) (by rfl)) rfl (yP_up (show d + 7 ≤ d + 8 by omega) (qa_115 A23 (by rw [R_pl_k (by omega) (by omega)]) (fun h24 F24 A24 M24 => ?_)))
        obtain ⟨gs24, o24⟩ := A24.cell (fun c z => z.o)
        have N24 := N23.tr M24
        refine yK_v rfl ?_
        refine ys_f 71 r_165_70 rfl ?_
        refine ys_f 72 r_165_71 rfl ?_
        refine ys_f 73 r_165_72 rfl ?_
        refine ys_f 74 r_165_73 rfl ?_
        refine ys_call (lv2 := [(0, _), (1, _)]) r_165_74 rfl rfl (by decide) (xcan_0 rfl rfl (by first | assumption) (by rfl)) rfl (yP_up (show d + 7 ≤ d + 8 by omega) (qa_114 A24 (by rw [R_pl_k (by omega) (by omega)]) (fun h25 F25 A25 M25 => ?_)))
        obtain ⟨gs25, o25⟩ := A25.cell (fun c z => z.o)
        have N25 := N24.tr M25
        refine yK_v rfl ?_
        refine ys_f 78 r_165_77 rfl ?_
        refine ys_f 79 r_165_78 rfl ?_
        refine ys_f 80 r_165_79 rfl ?_
        refine ys_f 81 r_165_80 rfl ?_
        refine ys_call (lv2 := [(0, _), (1, _)]) r_165_81 rfl rfl (by decide) (xcan_0 rfl rfl (by first | assumption) (by rfl)) rfl (yP_up (show d + 7 ≤ d + 8 by omega) (qa_117 A25 (by rw [R_pl_k (by omega) (by omega)]) (fun h26 F26 A26 M26 => ?_)))
        obtain ⟨gs26, o26⟩ := A26.cell (fun c z => z.o)
        have N26 := N25.tr M26
        refine yK_v rfl ?_
        refine ys_f 85 r_165_84 rfl ?_
        refine ys_f 86 (lv2 := [(1, _), (0, _), (2, _)]) r_165_85 rfl ?_
        refine ys_f 89 (lv2 := [(2, _), (1, _), (0, _)]) r_165_86 rfl ?_
        refine ys_f 23 r_165_89 rfl ?_
        first
          | (exact yP_lv [(0, .ref b), (1, .int (itr (dgP G) (i + 1) (dg0 G))), (2, .int (nI (i + 1)))] rfl ⟨rfl, (congrArg (fun z => some (Value.int z)) (by show _ = dgP G i _; unfold dgP dgW; rw [if_pos hw] <;> rfl)), (by rw [nI_succ]; rfl), trivial⟩ (ih (i + 1) _ _ (by omega) (by omega) A26 N26))
          | (exact yP_lv [(0, .ref b), (1, .int (itr (dgP G) (i + 1) (dg0 G))), (2, .int (nI (i + 1)))] rfl ⟨rfl, (congrArg (fun z => some (Value.int z)) (by show _ = dgP G i _; unfold dgP dgW; rw [if_neg hw] <;> rfl)), (by rw [nI_succ]; rfl), trivial⟩ (ih (i + 1) _ _ (by omega) (by omega) A26 N26))
      · refine ys_f 59 r_165_58 rfl ?_
        refine ys_f 63 r_165_59 rfl ?_
        refine ys_f 64 r_165_63 rfl ?_
        refine ys_f 65 r_165_64 rfl ?_
        refine ys_f 66 r_165_65 rfl ?_
        refine ys_f 67 r_165_66 rfl ?_
        refine ys_call (lv2 := [(0, _), (1, _)]) r_165_67 rfl rfl (by decide) (xcan_0 rfl rfl (by first | assumption) (by rfl)) rfl (yP_up (show d + 7 ≤ d + 8 by omega) (qa_115 A23 (by rw [R_pl_k (by omega) (by omega)]) (fun h27 F27 A27 M27 => ?_)))
        obtain ⟨gs27, o27⟩ := A27.cell (fun c z => z.o)
        have N27 := N23.tr M27
        refine yK_v rfl ?_
        refine ys_f 71 r_165_70 rfl ?_
        refine ys_f 72 r_165_71 rfl ?_
        refine ys_f 73 r_165_72 rfl ?_
        refine ys_f 74 r_165_73 rfl ?_
        refine ys_call (lv2 := [(0, _), (1, _)]) r_165_74 rfl rfl (by decide) (xcan_0 rfl rfl (by first | assumption) (by rfl)) rfl (yP_up (show d + 7 ≤ d + 8 by omega) (qa_114 A27 (by rw [R_pl_k (by omega) (by omega)]) (fun h28 F28 A28 M28 => ?_)))
        obtain ⟨gs28, o28⟩ := A28.cell (fun c z => z.o)
        have N28 := N27.tr M28
        refine yK_v rfl ?_
        refine ys_f 78 r_165_77 rfl ?_
        refine ys_f 79 r_165_78 rfl ?_
        refine ys_f 80 r_165_79 rfl ?_
        refine ys_f 81 r_165_80 rfl ?_
        refine ys_call (lv2 := [(0, _), (1, _)]) r_165_81 rfl rfl (by decide) (xcan_0 rfl rfl (by first | assumption) (by rfl)) rfl (yP_up (show d + 7 ≤ d + 8 by omega) (qa_117 A28 (by rw [R_pl_k (by omega) (by omega)]) (fun h29 F29 A29 M29 => ?_)))
        obtain ⟨gs29, o29⟩ := A29.cell (fun c z => z.o)
        have N29 := N28.tr M29
        refine yK_v rfl ?_
        refine ys_f 85 r_165_84 rfl ?_
        refine ys_f 86 (lv2 := [(1, _), (0, _), (2, _)]) r_165_85 rfl ?_
        refine ys_f 89 (lv2 := [(2, _), (1, _), (0, _)]) r_165_86 rfl ?_
        refine ys_f 23 r_165_89 rfl ?_
        first
          | (exact yP_lv [(0, .ref b), (1, .int (itr (dgP G) (i + 1) (dg0 G))), (2, .int (nI (i + 1)))] rfl ⟨rfl, (congrArg (fun z => some (Value.int z)) (by show _ = dgP G i _; unfold dgP dgW; rw [if_pos hw] <;> rfl)), (by rw [nI_succ]; rfl), trivial⟩ (ih (i + 1) _ _ (by omega) (by omega) A29 N29))
          | (exact yP_lv [(0, .ref b), (1, .int (itr (dgP G) (i + 1) (dg0 G))), (2, .int (nI (i + 1)))] rfl ⟨rfl, (congrArg (fun z => some (Value.int z)) (by show _ = dgP G i _; unfold dgP dgW; rw [if_neg hw] <;> rfl)), (by rw [nI_succ]; rfl), trivial⟩ (ih (i + 1) _ _ (by omega) (by omega) A29 N29))

theorem ls_94  (k : ∀ h2 F2, AtC h2 b F2 (Ca B G H Sv ch sv ea fa tn Bu) → MvC h h2 F F2 0 0 → yP S (d + 9) 165 126 [(0, .ref b), (1, .int (itr (dgB G) 9 (itr (dgP G) (npG G) (dg0 G))))] [] h2 Q) : ∀ (m : Nat) (i : Nat) (h1 : XH) (F1 : Nat → Prop), 10 - i < m → (i ≤ 9) → (AtC h1 b F1 (Ca B G H Sv ch sv ea fa tn Bu)) → (MvC h h1 F F1 0 0) → yP S (d + 9) 165 94 [(0, .ref b), (1, .int (itr (dgB G) i (itr (dgP G) (npG G) (dg0 G)))), (2, .int (nI (i + 1)))] [] h1 Q := by
  intro m
  induction m with
  | zero => intro i h1 F1 hm; exact absurd hm (Nat.not_lt_zero _)
  | succ m ih =>
    intro i h1 F1 hm hi A1 M1
    obtain ⟨gs, o0⟩ := A1.cell (fun c z => z.o)
    refine ys_f 95 r_165_94 rfl ?_
    refine ys_f 97 r_165_95 rfl ?_
    refine ys_if 126 100 r_165_97 rfl (fun hc1 => ?_) (fun hc1 => ?_)
    · have hc1 := (nI_leN (nI_k 10) rfl (by omega) (by omega)).mp hc1
      have e9 : i = 9 := by omega
      subst e9
      exact yP_lv [(0, .ref b), (1, .int (itr (dgB G) 9 (itr (dgP G) (npG G) (dg0 G))))] rfl ⟨rfl, rfl, trivial⟩ (k _ _ A1 M1)
    · have hc1 := mt (nI_leN (nI_k 10) rfl (by omega) (by omega)).mpr hc1
      refine ys_f 102 r_165_100 rfl ?_
      refine ys_f 104 r_165_102 rfl ?_
      refine ys_f 105 r_165_104 rfl ?_
      refine ys_f 106 r_165_105 rfl ?_
      refine ys_f 107 r_165_106 rfl ?_
      refine ys_f 108 r_165_107 rfl ?_
      refine ys_call (lv2 := [(0, _), (1, _)]) r_165_108 rfl rfl (by decide) (xcan_0 rfl rfl (by first | assumption) (by rfl)) rfl (yP_up (show d + 7 ≤ d + 8 by omega) (qa_120 A1 (R_bin_k (by omega) _) (fun h21 F21 A21 M21 => ?_)))
      obtain ⟨gs21, o21⟩ := A21.cell (fun c z => z.o)
      have N21 := M1.tr M21
      refine yK_v rfl ?_
      refine ys_f 112 r_165_111 rfl ?_
      refine ys_f 113 r_165_112 rfl ?_
      refine ys_f 114 r_165_113 rfl ?_
      refine ys_f 115 r_165_114 rfl ?_
      refine ys_call (lv2 := [(0, _), (1, _)]) r_165_115 rfl rfl (by decide) (xcan_0 rfl rfl (by first | assumption) (by rfl)) rfl (yP_up (show d + 7 ≤ d + 8 by omega) (qa_122 A21 (R_bin_k (by omega) _) (fun h22 F22 A22 M22 => ?_)))
      obtain ⟨gs22, o22⟩ := A22.cell (fun c z => z.o)
      have N22 := N21.tr M22
      refine yK_v rfl ?_
      refine ys_f 119 r_165_118 rfl ?_
      refine ys_f 120 (lv2 := [(1, _), (0, _), (2, _)]) r_165_119 rfl ?_
      refine ys_f 123 (lv2 := [(2, _), (1, _), (0, _)]) r_165_120 rfl ?_
      refine ys_f 94 r_165_123 rfl ?_
      exact yP_lv [(0, .ref b), (1, .int (itr (dgB G) (i + 1) (itr (dgP G) (npG G) (dg0 G)))), (2, .int (nI (i + 1 + 1)))] rfl ⟨rfl, rfl, (congrArg (fun z => some (Value.int z)) (nI_succ _).symm), trivial⟩ (ih (i + 1) _ _ (by omega) (by omega) A22 N22)

theorem ls_199  {h1 : XH} {q cnt r a c : Nat} {n v : Int32} (hc : IA h1.1 0 c 5 (eV G n r)) (h72 : 72 ≤ c) (k : yP S (d + 9) 165 227 [(0, .ref b), (1, .int (dgE G n r v)), (2, .int (nI q)), (4, .ref a), (5, .int (nI cnt)), (6, .int (nI r))] [] h1 Q) : ∀ (m : Nat) (j : Nat), 6 - j < m → (j ≤ 5) → yP S (d + 9) 165 199 [(0, .ref b), (1, .int (itr (fun j v => 31 * v + eV G n r j) j v)), (2, .int (nI q)), (4, .ref a), (5, .int (nI cnt)), (6, .int (nI r)), (8, .ref c), (9, .int (nI 5)), (10, .int (nI j))] [] h1 Q := by
  intro m
  induction m with
  | zero => intro j hm; exact absurd hm (Nat.not_lt_zero _)
  | succ m ih =>
    intro j hm hj
    refine ys_f 201 r_165_199 rfl ?_
    refine ys_f 203 r_165_201 rfl ?_
    refine ys_if 227 206 r_165_203 rfl (fun hc1 => ?_) (fun hc1 => ?_)
    · have hc1 := (nI_leN rfl rfl (by omega) (by omega)).mp hc1
      have e9 : j = 5 := by omega
      subst e9
      exact yP_lv [(0, .ref b), (1, .int (dgE G n r v)), (2, .int (nI q)), (4, .ref a), (5, .int (nI cnt)), (6, .int (nI r))] rfl ⟨rfl, rfl, rfl, rfl, rfl, rfl, trivial⟩ (k)
    · have hc1 := mt (nI_leN rfl rfl (by omega) (by omega)).mpr hc1
      refine ys_f 208 r_165_206 rfl ?_
      refine ys_f 210 r_165_208 rfl ?_
      refine ys_aldI 211 r_165_210 (fun _ _ => rfl) rfl rfl rfl (j := j) rfl hc (by omega) ?_
      skip
      refine ys_f 213 (lv2 := [(11, _), (0, _), (1, _), (2, _), (4, _), (5, _), (6, _), (8, _), (9, _), (10, _)]) r_165_211 rfl ?_
      refine ys_f 215 r_165_213 rfl ?_
      refine ys_f 216 r_165_215 rfl ?_
      refine ys_f 217 r_165_216 rfl ?_
      refine ys_f 219 r_165_217 rfl ?_
      refine ys_f 220 r_165_219 rfl ?_
      refine ys_f 221 (lv2 := [(1, _), (11, _), (0, _), (2, _), (4, _), (5, _), (6, _), (8, _), (9, _), (10, _)]) r_165_220 rfl ?_
      refine ys_f 224 (lv2 := [(10, _), (1, _), (11, _), (0, _), (2, _), (4, _), (5, _), (6, _), (8, _), (9, _)]) r_165_221 rfl ?_
      refine ys_f 199 r_165_224 rfl ?_
      exact yP_lv [(0, .ref b), (1, .int (itr (fun j v => 31 * v + eV G n r j) (j + 1) v)), (2, .int (nI q)), (4, .ref a), (5, .int (nI cnt)), (6, .int (nI r)), (8, .ref c), (9, .int (nI 5)), (10, .int (nI (j + 1)))] rfl ⟨rfl, rfl, rfl, rfl, rfl, rfl, rfl, rfl, (congrArg (fun z => some (Value.int z)) (nI_succ _).symm), trivial⟩ (ih (j + 1) (by omega) (by omega))

theorem ls_173  {h0 h1 : XH} {F1 : Nat → Prop} {q cnt a lim : Nat} {n v : Int32} {E : Nat → Option Nat} (h5 : cnt ≤ 5) (I : EsI h0 h1 F1 a cnt E cnt G n lim) (k : yP S (d + 9) 165 233 [(0, .ref b), (1, .int (itr (dgE G n) cnt v)), (2, .int (nI q))] [] h1 Q) : ∀ (m : Nat) (r : Nat), cnt + 1 - r < m → (r ≤ cnt) → yP S (d + 9) 165 173 [(0, .ref b), (1, .int (itr (dgE G n) r v)), (2, .int (nI q)), (4, .ref a), (5, .int (nI cnt)), (6, .int (nI r))] [] h1 Q := by
  intro m
  induction m with
  | zero => intro r hm; exact absurd hm (Nat.not_lt_zero _)
  | succ m ih =>
    intro r hm hr
    refine ys_f 175 r_165_173 rfl ?_
    refine ys_f 177 r_165_175 rfl ?_
    refine ys_if 233 180 r_165_177 rfl (fun hc1 => ?_) (fun hc1 => ?_)
    · have hc1 := (nI_leN rfl rfl (by omega) (by omega)).mp hc1
      have e9 : r = cnt := by omega
      subst e9
      exact yP_lv [(0, .ref b), (1, .int (itr (dgE G n) r v)), (2, .int (nI q))] rfl ⟨rfl, rfl, rfl, trivial⟩ (k)
    · have hc1 := mt (nI_leN rfl rfl (by omega) (by omega)).mpr hc1
      refine ys_f 182 r_165_180 rfl ?_
      refine ys_f 184 r_165_182 rfl ?_
      obtain ⟨c, c1, c2, c3, c4⟩ := I.2.2 r (by omega)
      have h72 : 72 ≤ c := by obtain ⟨⟨n0, w1, w2⟩, -⟩ := c3; omega
      refine ys_ald 185 4 r_165_184 (fun _ _ => rfl) rfl rfl rfl (j := r) rfl (yarr_h (by obtain ⟨⟨n0, w1, w2⟩, -⟩ := I.2.1.1; omega) I.1) rfl (by show r < cnt; omega) (by show cnt ≤ 65536; omega) (v := .ref c) (by show va_rf (E r) = _; rw [c1]; rfl) ?_
      refine ys_f 187 (lv2 := [(7, _), (0, _), (1, _), (2, _), (4, _), (5, _), (6, _)]) r_165_185 rfl ?_
      refine ys_f 189 r_165_187 rfl ?_
      refine ys_f 191 (lv2 := [(8, _), (7, _), (0, _), (1, _), (2, _), (4, _), (5, _), (6, _)]) r_165_189 rfl ?_
      refine ys_f 193 r_165_191 rfl ?_
      refine ys_lenA 194 r_165_193 rfl c4 ?_
      refine ys_f 196 (lv2 := [(9, _), (8, _), (7, _), (0, _), (1, _), (2, _), (4, _), (5, _), (6, _)]) r_165_194 rfl ?_
      refine ys_f 197 r_165_196 rfl ?_
      refine ys_f 199 (lv2 := [(10, _), (9, _), (8, _), (7, _), (0, _), (1, _), (2, _), (4, _), (5, _), (6, _)]) r_165_197 rfl ?_
      refine yP_lv [(0, .ref b), (1, .int (itr (fun j v => 31 * v + eV G n r j) 0 (itr (dgE G n) r v))), (2, .int (nI q)), (4, .ref a), (5, .int (nI cnt)), (6, .int (nI r)), (8, .ref c), (9, .int (nI 5)), (10, .int (nI 0))] rfl ⟨rfl, (congrArg (fun z => some (Value.int z)) itr_z.symm), rfl, rfl, rfl, rfl, rfl, rfl, rfl, trivial⟩ (ls_199 (v := itr (dgE G n) r v) c4 h72 ?_ 7 0 (by omega) (by omega))
      refine ys_f 230 (lv2 := [(6, _), (0, _), (1, _), (2, _), (4, _), (5, _)]) r_165_227 rfl ?_
      refine ys_f 173 r_165_230 rfl ?_
      exact yP_lv [(0, .ref b), (1, .int (itr (dgE G n) (r + 1) v)), (2, .int (nI q)), (4, .ref a), (5, .int (nI cnt)), (6, .int (nI (r + 1)))] rfl ⟨rfl, rfl, rfl, rfl, rfl, (by rw [nI_succ]; rfl), trivial⟩ (ih (r + 1) (by omega) (by omega))

theorem ls_128  (g : Gd G) (k : ∀ h2 F2, AtC h2 b F2 (Ca B G H Sv ch sv ea fa tn Bu) → MvC h h2 F F2 36 180 → yP S (d + 9) 165 239 [(0, .ref b), (1, .int (itr (dgQ G) (noG G) (itr (dgB G) 9 (itr (dgP G) (npG G) (dg0 G)))))] [] h2 Q) : ∀ (m : Nat) (i : Nat) (h1 : XH) (F1 : Nat → Prop), noG G + 1 - i < m → (i ≤ noG G) → (AtC h1 b F1 (Ca B G H Sv ch sv ea fa tn Bu)) → (MvC h h1 F F1 (6 * i) (30 * i)) → yP S (d + 9) 165 128 [(0, .ref b), (1, .int (itr (dgQ G) i (itr (dgB G) 9 (itr (dgP G) (npG G) (dg0 G))))), (2, .int (nI i))] [] h1 Q := by
  intro m
  induction m with
  | zero => intro i h1 F1 hm; exact absurd hm (Nat.not_lt_zero _)
  | succ m ih =>
    intro i h1 F1 hm hi A1 M1
    obtain ⟨gs, o0⟩ := A1.cell (fun c z => z.o)
    refine ys_f 129 r_165_128 rfl ?_
    refine ys_f 130 r_165_129 rfl ?_
    refine ys_call (lv2 := [(0, _)]) r_165_130 rfl rfl (by decide) (xcan_0 rfl rfl (by first | assumption) (by rfl)) rfl (yP_up (show d + 7 ≤ d + 8 by omega) (qa_95 A1  (fun h21 F21 A21 M21 => ?_)))
    obtain ⟨gs21, o21⟩ := A21.cell (fun c z => z.o)
    have N21 := M1.tr M21
    refine yK_v rfl ?_
    have g6 := g.2.1.2
    refine ys_if 239 136 r_165_133 rfl (fun hc1 => ?_) (fun hc1 => ?_)
    · have hc1 := (nI_leN g.2.1.1 rfl (by omega) (by omega)).mp hc1
      have e9 : i = noG G := by omega
      subst e9
      exact yP_lv [(0, .ref b), (1, .int (itr (dgQ G) (noG G) (itr (dgB G) 9 (itr (dgP G) (npG G) (dg0 G)))))] rfl ⟨rfl, rfl, trivial⟩ (k _ _ A21 (N21.le (by omega) (by omega)))
    · have hc1 := mt (nI_leN g.2.1.1 rfl (by omega) (by omega)).mpr hc1
      have hz := g.num (k := i) (by omega)
      refine ys_f 137 r_165_136 rfl ?_
      refine ys_f 138 r_165_137 rfl ?_
      refine ys_call (lv2 := [(0, _), (1, _)]) r_165_138 rfl rfl (by decide) (xcan_0 rfl rfl (by first | assumption) (by rfl)) rfl (yP_up (show d + 7 ≤ d + 8 by omega) (qa_96 A21 hz.1 (fun h22 F22 A22 M22 => ?_)))
      obtain ⟨gs22, o22⟩ := A22.cell (fun c z => z.o)
      have N22 := N21.tr M22
      refine yK_v rfl ?_
      refine ys_f 142 (lv2 := [(3, _), (0, _), (1, _), (2, _)]) r_165_141 rfl ?_
      refine ys_f 144 r_165_142 rfl ?_
      refine ys_f 146 r_165_144 rfl ?_
      refine ys_f 147 r_165_146 rfl ?_
      refine ys_f 148 r_165_147 rfl ?_
      refine ys_f 149 r_165_148 rfl ?_
      refine ys_f 150 r_165_149 rfl ?_
      refine ys_f 151 r_165_150 rfl ?_
      refine ys_f 152 r_165_151 rfl ?_
      refine ys_f 153 r_165_152 rfl ?_
      refine ys_call (lv2 := [(0, _), (1, _)]) r_165_153 rfl rfl (by decide) (xcan_0 rfl rfl (by first | assumption) (by rfl)) rfl (yP_up (show d + 7 ≤ d + 8 by omega) (qa_98 A22 (congrArg Prod.fst (R_q_k hz.2 _)) (fun h23 F23 A23 M23 => ?_)))
      obtain ⟨gs23, o23⟩ := A23.cell (fun c z => z.o)
      have N23 := N22.tr M23
      refine yK_v rfl ?_
      refine ys_f 157 r_165_156 rfl ?_
      refine ys_f 158 (lv2 := [(1, _), (3, _), (0, _), (2, _)]) r_165_157 rfl ?_
      refine ys_f 159 r_165_158 rfl ?_
      refine ys_f 160 r_165_159 rfl ?_
      refine ys_call (lv2 := [(0, _), (1, _)]) r_165_160 rfl rfl (by decide) (xcan_1 rfl) rfl (la_166 A23 g hz.2 (fun h9 F9 a9 E9 l9 A9 M9 I9 => ?_))
      obtain ⟨gs9, o9⟩ := A9.cell (fun c z => z.o)
      have N9 := N23.tr M9
      have h5 : dgC G (dgN G i) ≤ 5 := (g.2.2.1 _ (by have := hz.2; omega)).2
      refine yK_v rfl ?_
      refine ys_f 165 (lv2 := [(4, _), (1, _), (3, _), (0, _), (2, _)]) r_165_163 rfl ?_
      refine ys_f 167 r_165_165 rfl ?_
      refine ys_len 168 r_165_167 rfl (yarr_h (by obtain ⟨⟨n0, w1, w2⟩, -⟩ := I9.2.1.1; omega) I9.1) ?_
      refine ys_f 170 (lv2 := [(5, _), (4, _), (1, _), (3, _), (0, _), (2, _)]) r_165_168 rfl ?_
      refine ys_f 171 r_165_170 rfl ?_
      refine ys_f 173 (lv2 := [(6, _), (5, _), (4, _), (1, _), (3, _), (0, _), (2, _)]) r_165_171 rfl ?_
      refine yP_lv [(0, .ref b), (1, .int (itr (dgE G (dgN G i)) 0 (dgQ1 G i (itr (dgQ G) i (itr (dgB G) 9 (itr (dgP G) (npG G) (dg0 G))))))), (2, .int (nI i)), (4, .ref a9), (5, .int (nI (dgC G (dgN G i)))), (6, .int (nI 0))] rfl ⟨rfl, (congrArg (fun z => some (Value.int z)) itr_z.symm), rfl, rfl, rfl, rfl, trivial⟩ (ls_173 (n := dgN G i) (v := dgQ1 G i (itr (dgQ G) i (itr (dgB G) 9 (itr (dgP G) (npG G) (dg0 G))))) h5 I9 ?_ (dgC G (dgN G i) + 2) 0 (by omega) (by omega))
      refine ys_f 236 (lv2 := [(2, _), (0, _), (1, _)]) r_165_233 rfl ?_
      refine ys_f 128 r_165_236 rfl ?_
      exact yP_lv [(0, .ref b), (1, .int (itr (dgQ G) (i + 1) (itr (dgB G) 9 (itr (dgP G) (npG G) (dg0 G))))), (2, .int (nI (i + 1)))] rfl ⟨rfl, rfl, (by rw [nI_succ]; rfl), trivial⟩ (ih (i + 1) _ _ (by omega) (by omega) A9 (N9.le (by omega) (by omega)))

theorem la_165  (A : AtC h b F (Ca B G H Sv ch sv ea fa tn Bu)) (k : ∀ h2 F2, AtC h2 b F2 (Ca B G H Sv ch sv ea fa tn Bu) → MvC h h2 F F2 36 180 → Q (.inl (some (.int (Dg G)))) h2) : yP S (d + 9) 165 0 [(0, .ref b)] [] h Q := by
  obtain ⟨gs, o0⟩ := A.cell (fun c z => z.o)
  obtain ⟨c9, hc9⟩ := A.get
  have g := hc9.gd
  refine ys_f 2 r_165_0 rfl ?_
  refine ys_f 4 r_165_2 rfl ?_
  refine ys_f 5 r_165_4 rfl ?_
  refine ys_call (lv2 := [(0, _)]) r_165_5 rfl rfl (by decide) (xcan_0 rfl rfl (by first | assumption) (by rfl)) rfl (yP_up (show d + 7 ≤ d + 8 by omega) (qa_93 A  (fun h21 F21 A21 M21 => ?_)))
  obtain ⟨gs21, o21⟩ := A21.cell (fun c z => z.o)
  have N21 := M21
  refine yK_v rfl ?_
  refine ys_f 9 r_165_8 rfl ?_
  refine ys_f 10 r_165_9 rfl ?_
  refine ys_call (lv2 := [(0, _)]) r_165_10 rfl rfl (by decide) (xcan_0 rfl rfl (by first | assumption) (by rfl)) rfl (yP_up (show d + 7 ≤ d + 8 by omega) (qa_111 A21  (fun h22 F22 A22 M22 => ?_)))
  obtain ⟨gs22, o22⟩ := A22.cell (fun c z => z.o)
  have N22 := N21.tr M22
  refine yK_v rfl ?_
  refine ys_f 14 r_165_13 rfl ?_
  refine ys_f 15 r_165_14 rfl ?_
  refine ys_f 16 r_165_15 rfl ?_
  refine ys_call (lv2 := [(0, _)]) r_165_16 rfl rfl (by decide) (xcan_0 rfl rfl (by first | assumption) (by rfl)) rfl (yP_up (show d + 7 ≤ d + 8 by omega) (qa_95 A22  (fun h23 F23 A23 M23 => ?_)))
  obtain ⟨gs23, o23⟩ := A23.cell (fun c z => z.o)
  have N23 := N22.tr M23
  refine yK_v rfl ?_
  refine ys_f 20 r_165_19 rfl ?_
  refine ys_f 21 (lv2 := [(1, _), (0, _)]) r_165_20 rfl ?_
  refine ys_f 22 r_165_21 rfl ?_
  refine ys_f 23 (lv2 := [(2, _), (1, _), (0, _)]) r_165_22 rfl ?_
  refine yP_lv [(0, .ref b), (1, .int (itr (dgP G) 0 (dg0 G))), (2, .int (nI 0))] rfl ⟨rfl, (congrArg (fun z => some (Value.int z)) itr_z.symm), rfl, trivial⟩ (ls_23 g (fun h31 F31 A31 M31 => ?_) (npG G + 2) 0 _ _ (by omega) (by omega) A23 N23)
  refine ys_f 93 r_165_92 rfl ?_
  refine ys_f 94 (lv2 := [(2, _), (0, _), (1, _)]) r_165_93 rfl ?_
  refine yP_lv [(0, .ref b), (1, .int (itr (dgB G) 0 (itr (dgP G) (npG G) (dg0 G)))), (2, .int (nI 1))] rfl ⟨rfl, (congrArg (fun z => some (Value.int z)) itr_z.symm), rfl, trivial⟩ (ls_94 (fun h32 F32 A32 M32 => ?_) 11 0 _ _ (by omega) (by omega) A31 M31)
  refine ys_f 127 r_165_126 rfl ?_
  refine ys_f 128 (lv2 := [(2, _), (0, _), (1, _)]) r_165_127 rfl ?_
  refine yP_lv [(0, .ref b), (1, .int (itr (dgQ G) 0 (itr (dgB G) 9 (itr (dgP G) (npG G) (dg0 G))))), (2, .int (nI 0))] rfl ⟨rfl, (congrArg (fun z => some (Value.int z)) itr_z.symm), rfl, trivial⟩ (ls_128 g (fun h33 F33 A33 M33 => ?_) (noG G + 2) 0 _ _ (by omega) (by omega) A32 M32)
  obtain ⟨gs33, o33⟩ := A33.cell (fun c z => z.o)
  refine ys_f 241 r_165_239 rfl ?_
  refine ys_f 242 r_165_241 rfl ?_
  refine ys_f 243 r_165_242 rfl ?_
  refine ys_f 244 r_165_243 rfl ?_
  refine ys_call (lv2 := [(0, _)]) r_165_244 rfl rfl (by decide) (xcan_0 rfl rfl o33 (by rfl)) rfl (yP_up (show d + 7 ≤ d + 8 by omega) (qa_90 A33 (fun h34 F34 A34 M34 => ?_)))
  refine yK_v rfl ?_
  refine ys_f 248 r_165_247 rfl ?_
  refine ys_ret r_165_248 rfl ?_
  exact k _ _ A34 (M33.tr M34)

end HH
