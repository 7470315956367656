/-! the board's changes, part two -/
theorem xw_xw {α : Type} {f : Nat → α} {k : Nat} {x y : α} : xw (xw f k x) k y = xw f k y := funext fun j => by
  unfold xw
  by_cases z : j = k
  · rw [if_pos z, if_pos z]
  · rw [if_neg z, if_neg z, if_neg z]
/-! the board's changes -/
abbrev betOK (lo hi c s : Int32) : Prop := xval lo ∧ xval hi ∧ lo ≤ hi ∧ xconf c ∧ 1 ≤ s ∧ s ≤ 20
def betF (np no : Nat) (pl : Nat → XPl) (q : Nat → XQu) (p n lo hi c s : Int32) : Nat :=
  if isPl np p then (if pla q no n < no then (if betOK lo hi c s then (bif (pl p.toNatClampNeg).2.2.1 then 4 else (if rnk (q (pla q no n)).2.2.2 (q (pla q no n)).2.2.1 p < (q (pla q no n)).2.2.1 ∨ (pl p.toNatClampNeg).1 < s then 5 else 0)) else 3) else 2) else 1
theorem c_18 {S : XSc} {d : Nat} {h : XH} {Q : XO → XH → Prop} {b np no : Nat} {nn : Int32} {sc : Nat} {ho : Int32} {TS TH tr : Nat → Int32} {pl : Nat → XPl} {q : Nat → XQu} {s : Nat → Nat} {R : Nat → Nat → Nat} (hB : BdP h.1 b np no nn sc ho TS TH tr pl q s R) (h32 : 32 ≤ b) {p n lo hi c s : Int32} (k : Q (.inl (some (.ref (betF np no pl q p n lo hi c s)))) h) : xP S (d + 1) 18 0 [(0, .ref b), (1, .int p), (2, .int n), (3, .int lo), (4, .int hi), (5, .int c), (6, .int s)] [] h Q := by
  obtain ⟨b1, ⟨b2n, b2o, b2s⟩, b3, b4, b5, b6, b7, b8, b9, b10⟩ := id hB
  refine xs_f 1 r_18_0 rfl ?_
  refine xs_f 2 r_18_1 rfl ?_
  refine xs_call (lv2 := [(0, _), (1, _)]) r_18_2 rfl rfl (by decide) (xcan_0 rfl rfl (by first | assumption | exact xup_s | exact (b7 _ (by omega)).1 | exact (b10 _ (by omega)).1 | (refine (xup_n (by omega)).trans ?_; first | assumption | exact xup_s | exact (b7 _ (by omega)).1 | exact (b10 _ (by omega)).1) | (refine (xup_n (by omega)).trans ((xup_n (by omega)).trans ?_); first | assumption | exact xup_s | exact (b7 _ (by omega)).1 | exact (b10 _ (by omega)).1) | (refine (xup_n (by omega)).trans ((xup_n (by omega)).trans ((xup_n (by omega)).trans ?_)); first | assumption | exact xup_s | exact (b7 _ (by omega)).1 | exact (b10 _ (by omega)).1)) (by rfl)) rfl (c_12 hB h32 (fun hp => ?_) (fun hp => ?_))
  · refine xK_v rfl ?_
    refine xs_f 12 r_18_5 rfl ?_
    refine xs_f 13 r_18_12 rfl ?_
    refine xs_f 14 r_18_13 rfl ?_
    refine xs_call (lv2 := [(0, _), (1, _)]) r_18_14 rfl rfl (by decide) (xcan_0 rfl rfl (by first | assumption | exact xup_s | exact (b7 _ (by omega)).1 | exact (b10 _ (by omega)).1 | (refine (xup_n (by omega)).trans ?_; first | assumption | exact xup_s | exact (b7 _ (by omega)).1 | exact (b10 _ (by omega)).1) | (refine (xup_n (by omega)).trans ((xup_n (by omega)).trans ?_); first | assumption | exact xup_s | exact (b7 _ (by omega)).1 | exact (b10 _ (by omega)).1) | (refine (xup_n (by omega)).trans ((xup_n (by omega)).trans ((xup_n (by omega)).trans ?_)); first | assumption | exact xup_s | exact (b7 _ (by omega)).1 | exact (b10 _ (by omega)).1)) (by rfl)) rfl (c_13 hB h32 (fun hq => ?_) (fun hq => ?_))
    · obtain ⟨i, hi5, rfl⟩ := isPl_nI hp b2n
      have hcl : (nI i).toNatClampNeg = i := nI_clamp (by omega)
      have z8 := b8 (pla q no n) (by omega)
      refine xK_v rfl ?_
      refine xs_f 19 (lv2 := [(7, _), (0, _), (1, _), (2, _), (3, _), (4, _), (5, _), (6, _)]) r_18_17 rfl ?_
      refine xs_f 21 r_18_19 rfl ?_
      refine xs_f 22 r_18_21 rfl ?_
      refine xs_if 25 29 r_18_22 rfl (fun hc1 => ?_) (fun hc1 => ?_)
      · exact absurd hc1 (nI_m1 rfl (by omega))
      · refine xs_f 30 r_18_29 rfl ?_
        refine xs_call (lv2 := [(0, _)]) r_18_30 rfl rfl (by decide) (xcan_3 rfl rfl) rfl (c_136 (fun hv1 => ?_) (fun hv1 => ?_))
        · refine xK_v rfl ?_
          refine xs_f 36 r_18_33 rfl ?_
          refine xs_f 38 r_18_36 rfl ?_
          refine xs_call (lv2 := [(0, _)]) r_18_38 rfl rfl (by decide) (xcan_3 rfl rfl) rfl (c_136 (fun hv2 => ?_) (fun hv2 => ?_))
          · refine xK_v rfl ?_
            refine xs_f 44 r_18_41 rfl ?_
            refine xs_f 45 r_18_44 rfl ?_
            refine xs_f 47 r_18_45 rfl ?_
            refine xs_if 71 50 r_18_47 rfl (fun hl => ?_) (fun hl => ?_)
            · refine xs_gst 74 r_18_71 rfl ?_
              refine xs_ret r_18_74 rfl ?_
              first
                | exact xq_ref k (if_neg hp)
                | exact xq_ref k ((if_pos hp).trans (if_neg (by omega)))
                | exact xq_ref k ((if_pos hp).trans ((if_pos hq).trans (if_neg (fun z => hv1 z.1))))
                | exact xq_ref k ((if_pos hp).trans ((if_pos hq).trans (if_neg (fun z => hv2 z.2.1))))
                | exact xq_ref k ((if_pos hp).trans ((if_pos hq).trans (if_neg (fun z => absurd hl (Int32.not_lt.mpr z.2.2.1)))))
                | exact xq_ref k ((if_pos hp).trans ((if_pos hq).trans (if_neg (fun z => hc z.2.2.2.1))))
                | exact xq_ref k ((if_pos hp).trans ((if_pos hq).trans (if_neg (fun z => absurd hs1 (Int32.not_lt.mpr z.2.2.2.2.1)))))
                | exact xq_ref k ((if_pos hp).trans ((if_pos hq).trans (if_neg (fun z => hs2 z.2.2.2.2.2))))
                | exact xq_ref k ((if_pos hp).trans ((if_pos hq).trans ((if_pos ⟨hv1, hv2, Int32.not_lt.mp hl, hc, Int32.not_lt.mp hs1, hs2⟩).trans (by rw [hcl, bI_n0 ho]; rfl))))
                | exact xq_ref k ((if_pos hp).trans ((if_pos hq).trans ((if_pos ⟨hv1, hv2, Int32.not_lt.mp hl, hc, Int32.not_lt.mp hs1, hs2⟩).trans (by rw [hcl, (bI_0 _).mp ho]; exact if_pos (Or.inl hr)))))
                | exact xq_ref k ((if_pos hp).trans ((if_pos hq).trans ((if_pos ⟨hv1, hv2, Int32.not_lt.mp hl, hc, Int32.not_lt.mp hs1, hs2⟩).trans (by rw [hcl, (bI_0 _).mp ho]; exact if_pos (Or.inr (Int32.not_le.mp hm))))))
                | exact xq_ref k ((if_pos hp).trans ((if_pos hq).trans ((if_pos ⟨hv1, hv2, Int32.not_lt.mp hl, hc, Int32.not_lt.mp hs1, hs2⟩).trans (by rw [hcl, (bI_0 _).mp ho]; exact if_neg (fun z => z.elim (fun z => by omega) (fun z => absurd hm (Int32.not_le.mpr z)))))))
            · refine xs_f 52 r_18_50 rfl ?_
              refine xs_call (lv2 := [(0, _)]) r_18_52 rfl rfl (by decide) (xcan_3 rfl rfl) rfl (c_137 (fun hc => ?_) (fun hc => ?_))
              · refine xK_v rfl ?_
                refine xs_f 58 r_18_55 rfl ?_
                refine xs_f 60 r_18_58 rfl ?_
                refine xs_f 61 r_18_60 rfl ?_
                refine xs_if 71 64 r_18_61 rfl (fun hs1 => ?_) (fun hs1 => ?_)
                · refine xs_gst 74 r_18_71 rfl ?_
                  refine xs_ret r_18_74 rfl ?_
                  first
                    | exact xq_ref k (if_neg hp)
                    | exact xq_ref k ((if_pos hp).trans (if_neg (by omega)))
                    | exact xq_ref k ((if_pos hp).trans ((if_pos hq).trans (if_neg (fun z => hv1 z.1))))
                    | exact xq_ref k ((if_pos hp).trans ((if_pos hq).trans (if_neg (fun z => hv2 z.2.1))))
                    | exact xq_ref k ((if_pos hp).trans ((if_pos hq).trans (if_neg (fun z => absurd hl (Int32.not_lt.mpr z.2.2.1)))))
                    | exact xq_ref k ((if_pos hp).trans ((if_pos hq).trans (if_neg (fun z => hc z.2.2.2.1))))
                    | exact xq_ref k ((if_pos hp).trans ((if_pos hq).trans (if_neg (fun z => absurd hs1 (Int32.not_lt.mpr z.2.2.2.2.1)))))
                    | exact xq_ref k ((if_pos hp).trans ((if_pos hq).trans (if_neg (fun z => hs2 z.2.2.2.2.2))))
                    | exact xq_ref k ((if_pos hp).trans ((if_pos hq).trans ((if_pos ⟨hv1, hv2, Int32.not_lt.mp hl, hc, Int32.not_lt.mp hs1, hs2⟩).trans (by rw [hcl, bI_n0 ho]; rfl))))
                    | exact xq_ref k ((if_pos hp).trans ((if_pos hq).trans ((if_pos ⟨hv1, hv2, Int32.not_lt.mp hl, hc, Int32.not_lt.mp hs1, hs2⟩).trans (by rw [hcl, (bI_0 _).mp ho]; exact if_pos (Or.inl hr)))))
                    | exact xq_ref k ((if_pos hp).trans ((if_pos hq).trans ((if_pos ⟨hv1, hv2, Int32.not_lt.mp hl, hc, Int32.not_lt.mp hs1, hs2⟩).trans (by rw [hcl, (bI_0 _).mp ho]; exact if_pos (Or.inr (Int32.not_le.mp hm))))))
                    | exact xq_ref k ((if_pos hp).trans ((if_pos hq).trans ((if_pos ⟨hv1, hv2, Int32.not_lt.mp hl, hc, Int32.not_lt.mp hs1, hs2⟩).trans (by rw [hcl, (bI_0 _).mp ho]; exact if_neg (fun z => z.elim (fun z => by omega) (fun z => absurd hm (Int32.not_le.mpr z)))))))
                · refine xs_f 66 r_18_64 rfl ?_
                  refine xs_f 68 r_18_66 rfl ?_
                  refine xs_if 75 71 r_18_68 rfl (fun hs2 => ?_) (fun hs2 => ?_)
                  · refine xs_f 76 r_18_75 rfl ?_
                    refine xs_get 79 r_18_76 rfl rfl (by first | assumption | exact xup_s | exact (b7 _ (by omega)).1 | exact (b10 _ (by omega)).1 | (refine (xup_n (by omega)).trans ?_; first | assumption | exact xup_s | exact (b7 _ (by omega)).1 | exact (b10 _ (by omega)).1) | (refine (xup_n (by omega)).trans ((xup_n (by omega)).trans ?_); first | assumption | exact xup_s | exact (b7 _ (by omega)).1 | exact (b10 _ (by omega)).1) | (refine (xup_n (by omega)).trans ((xup_n (by omega)).trans ((xup_n (by omega)).trans ?_)); first | assumption | exact xup_s | exact (b7 _ (by omega)).1 | exact (b10 _ (by omega)).1)) (by rfl) ?_
                    refine xs_f 80 r_18_79 rfl ?_
                    refine xs_aldR 81 r_18_80 (fun _ _ => rfl) rfl rfl rfl (j := i) rfl (by first | assumption | (refine RA.fr ?_ (xup_n (by omega)); first | assumption) | (refine RA.fr (RA.fr ?_ (xup_n (by omega))) (xup_n (by omega)); first | assumption) | (refine RA.fr (RA.fr (RA.fr ?_ (xup_n (by omega))) (xup_n (by omega))) (xup_n (by omega)); first | assumption)) (by omega) ?_
                    refine xs_get 84 r_18_81 rfl rfl (by first | assumption | exact xup_s | exact (b7 _ (by omega)).1 | exact (b10 _ (by omega)).1 | (refine (xup_n (by omega)).trans ?_; first | assumption | exact xup_s | exact (b7 _ (by omega)).1 | exact (b10 _ (by omega)).1) | (refine (xup_n (by omega)).trans ((xup_n (by omega)).trans ?_); first | assumption | exact xup_s | exact (b7 _ (by omega)).1 | exact (b10 _ (by omega)).1) | (refine (xup_n (by omega)).trans ((xup_n (by omega)).trans ((xup_n (by omega)).trans ?_)); first | assumption | exact xup_s | exact (b7 _ (by omega)).1 | exact (b10 _ (by omega)).1)) (by rfl) ?_
                    refine xs_if 91 87 r_18_84 rfl (fun ho => ?_) (fun ho => ?_)
                    · refine xs_f 92 r_18_91 rfl ?_
                      refine xs_get 95 r_18_92 rfl rfl (by first | assumption | exact xup_s | exact (b7 _ (by omega)).1 | exact (b10 _ (by omega)).1 | (refine (xup_n (by omega)).trans ?_; first | assumption | exact xup_s | exact (b7 _ (by omega)).1 | exact (b10 _ (by omega)).1) | (refine (xup_n (by omega)).trans ((xup_n (by omega)).trans ?_); first | assumption | exact xup_s | exact (b7 _ (by omega)).1 | exact (b10 _ (by omega)).1) | (refine (xup_n (by omega)).trans ((xup_n (by omega)).trans ((xup_n (by omega)).trans ?_)); first | assumption | exact xup_s | exact (b7 _ (by omega)).1 | exact (b10 _ (by omega)).1)) (by rfl) ?_
                      refine xs_f 97 r_18_95 rfl ?_
                      refine xs_aldR 98 r_18_97 (fun _ _ => rfl) rfl rfl rfl (j := (pla q no n)) rfl (by first | assumption | (refine RA.fr ?_ (xup_n (by omega)); first | assumption) | (refine RA.fr (RA.fr ?_ (xup_n (by omega))) (xup_n (by omega)); first | assumption) | (refine RA.fr (RA.fr (RA.fr ?_ (xup_n (by omega))) (xup_n (by omega))) (xup_n (by omega)); first | assumption)) (by omega) ?_
                      refine xs_f 99 r_18_98 rfl ?_
                      refine xs_call (lv2 := [(0, _), (1, _)]) r_18_99 rfl rfl (by decide) (xcan_0 rfl rfl (by first | assumption | exact xup_s | exact (b7 _ (by omega)).1 | exact (b10 _ (by omega)).1 | (refine (xup_n (by omega)).trans ?_; first | assumption | exact xup_s | exact (b7 _ (by omega)).1 | exact (b10 _ (by omega)).1) | (refine (xup_n (by omega)).trans ((xup_n (by omega)).trans ?_); first | assumption | exact xup_s | exact (b7 _ (by omega)).1 | exact (b10 _ (by omega)).1) | (refine (xup_n (by omega)).trans ((xup_n (by omega)).trans ((xup_n (by omega)).trans ?_)); first | assumption | exact xup_s | exact (b7 _ (by omega)).1 | exact (b10 _ (by omega)).1)) (by rfl)) rfl (c_78r (b10 (pla q no n) (by omega)) (by omega) (fun hr => ?_) (fun hr => ?_))
                      · have z9 := (b10 (pla q no n) (by omega)).2.1
                        refine xK_v rfl ?_
                        refine xs_f 103 r_18_102 rfl ?_
                        refine xs_if 106 120 r_18_103 rfl (fun hrr => ?_) (fun hrr => ?_)
                        · exact absurd hrr (nI_m1 rfl (by omega))
                        · refine xs_gst 123 r_18_120 rfl ?_
                          refine xs_ret r_18_123 rfl ?_
                          first
                            | exact xq_ref k (if_neg hp)
                            | exact xq_ref k ((if_pos hp).trans (if_neg (by omega)))
                            | exact xq_ref k ((if_pos hp).trans ((if_pos hq).trans (if_neg (fun z => hv1 z.1))))
                            | exact xq_ref k ((if_pos hp).trans ((if_pos hq).trans (if_neg (fun z => hv2 z.2.1))))
                            | exact xq_ref k ((if_pos hp).trans ((if_pos hq).trans (if_neg (fun z => absurd hl (Int32.not_lt.mpr z.2.2.1)))))
                            | exact xq_ref k ((if_pos hp).trans ((if_pos hq).trans (if_neg (fun z => hc z.2.2.2.1))))
                            | exact xq_ref k ((if_pos hp).trans ((if_pos hq).trans (if_neg (fun z => absurd hs1 (Int32.not_lt.mpr z.2.2.2.2.1)))))
                            | exact xq_ref k ((if_pos hp).trans ((if_pos hq).trans (if_neg (fun z => hs2 z.2.2.2.2.2))))
                            | exact xq_ref k ((if_pos hp).trans ((if_pos hq).trans ((if_pos ⟨hv1, hv2, Int32.not_lt.mp hl, hc, Int32.not_lt.mp hs1, hs2⟩).trans (by rw [hcl, bI_n0 ho]; rfl))))
                            | exact xq_ref k ((if_pos hp).trans ((if_pos hq).trans ((if_pos ⟨hv1, hv2, Int32.not_lt.mp hl, hc, Int32.not_lt.mp hs1, hs2⟩).trans (by rw [hcl, (bI_0 _).mp ho]; exact if_pos (Or.inl hr)))))
                            | exact xq_ref k ((if_pos hp).trans ((if_pos hq).trans ((if_pos ⟨hv1, hv2, Int32.not_lt.mp hl, hc, Int32.not_lt.mp hs1, hs2⟩).trans (by rw [hcl, (bI_0 _).mp ho]; exact if_pos (Or.inr (Int32.not_le.mp hm))))))
                            | exact xq_ref k ((if_pos hp).trans ((if_pos hq).trans ((if_pos ⟨hv1, hv2, Int32.not_lt.mp hl, hc, Int32.not_lt.mp hs1, hs2⟩).trans (by rw [hcl, (bI_0 _).mp ho]; exact if_neg (fun z => z.elim (fun z => by omega) (fun z => absurd hm (Int32.not_le.mpr z)))))))
                      · refine xK_v rfl ?_
                        refine xs_f 103 r_18_102 rfl ?_
                        refine xs_f 106 r_18_103 rfl ?_
                        refine xs_f 107 r_18_106 rfl ?_
                        refine xs_get 110 r_18_107 rfl rfl (by first | assumption | exact xup_s | exact (b7 _ (by omega)).1 | exact (b10 _ (by omega)).1 | (refine (xup_n (by omega)).trans ?_; first | assumption | exact xup_s | exact (b7 _ (by omega)).1 | exact (b10 _ (by omega)).1) | (refine (xup_n (by omega)).trans ((xup_n (by omega)).trans ?_); first | assumption | exact xup_s | exact (b7 _ (by omega)).1 | exact (b10 _ (by omega)).1) | (refine (xup_n (by omega)).trans ((xup_n (by omega)).trans ((xup_n (by omega)).trans ?_)); first | assumption | exact xup_s | exact (b7 _ (by omega)).1 | exact (b10 _ (by omega)).1)) (by rfl) ?_
                        refine xs_f 111 r_18_110 rfl ?_
                        refine xs_aldR 112 r_18_111 (fun _ _ => rfl) rfl rfl rfl (j := i) rfl (by first | assumption | (refine RA.fr ?_ (xup_n (by omega)); first | assumption) | (refine RA.fr (RA.fr ?_ (xup_n (by omega))) (xup_n (by omega)); first | assumption) | (refine RA.fr (RA.fr (RA.fr ?_ (xup_n (by omega))) (xup_n (by omega))) (xup_n (by omega)); first | assumption)) (by omega) ?_
                        refine xs_get 115 r_18_112 rfl rfl (by first | assumption | exact xup_s | exact (b7 _ (by omega)).1 | exact (b10 _ (by omega)).1 | (refine (xup_n (by omega)).trans ?_; first | assumption | exact xup_s | exact (b7 _ (by omega)).1 | exact (b10 _ (by omega)).1) | (refine (xup_n (by omega)).trans ((xup_n (by omega)).trans ?_); first | assumption | exact xup_s | exact (b7 _ (by omega)).1 | exact (b10 _ (by omega)).1) | (refine (xup_n (by omega)).trans ((xup_n (by omega)).trans ((xup_n (by omega)).trans ?_)); first | assumption | exact xup_s | exact (b7 _ (by omega)).1 | exact (b10 _ (by omega)).1)) (by rfl) ?_
                        refine xs_f 117 r_18_115 rfl ?_
                        refine xs_if 124 120 r_18_117 rfl (fun hm => ?_) (fun hm => ?_)
                        · refine xs_gst 127 r_18_124 rfl ?_
                          refine xs_ret r_18_127 rfl ?_
                          first
                            | exact xq_ref k (if_neg hp)
                            | exact xq_ref k ((if_pos hp).trans (if_neg (by omega)))
                            | exact xq_ref k ((if_pos hp).trans ((if_pos hq).trans (if_neg (fun z => hv1 z.1))))
                            | exact xq_ref k ((if_pos hp).trans ((if_pos hq).trans (if_neg (fun z => hv2 z.2.1))))
                            | exact xq_ref k ((if_pos hp).trans ((if_pos hq).trans (if_neg (fun z => absurd hl (Int32.not_lt.mpr z.2.2.1)))))
                            | exact xq_ref k ((if_pos hp).trans ((if_pos hq).trans (if_neg (fun z => hc z.2.2.2.1))))
                            | exact xq_ref k ((if_pos hp).trans ((if_pos hq).trans (if_neg (fun z => absurd hs1 (Int32.not_lt.mpr z.2.2.2.2.1)))))
                            | exact xq_ref k ((if_pos hp).trans ((if_pos hq).trans (if_neg (fun z => hs2 z.2.2.2.2.2))))
                            | exact xq_ref k ((if_pos hp).trans ((if_pos hq).trans ((if_pos ⟨hv1, hv2, Int32.not_lt.mp hl, hc, Int32.not_lt.mp hs1, hs2⟩).trans (by rw [hcl, bI_n0 ho]; rfl))))
                            | exact xq_ref k ((if_pos hp).trans ((if_pos hq).trans ((if_pos ⟨hv1, hv2, Int32.not_lt.mp hl, hc, Int32.not_lt.mp hs1, hs2⟩).trans (by rw [hcl, (bI_0 _).mp ho]; exact if_pos (Or.inl hr)))))
                            | exact xq_ref k ((if_pos hp).trans ((if_pos hq).trans ((if_pos ⟨hv1, hv2, Int32.not_lt.mp hl, hc, Int32.not_lt.mp hs1, hs2⟩).trans (by rw [hcl, (bI_0 _).mp ho]; exact if_pos (Or.inr (Int32.not_le.mp hm))))))
                            | exact xq_ref k ((if_pos hp).trans ((if_pos hq).trans ((if_pos ⟨hv1, hv2, Int32.not_lt.mp hl, hc, Int32.not_lt.mp hs1, hs2⟩).trans (by rw [hcl, (bI_0 _).mp ho]; exact if_neg (fun z => z.elim (fun z => by omega) (fun z => absurd hm (Int32.not_le.mpr z)))))))
                        · refine xs_gst 123 r_18_120 rfl ?_
                          refine xs_ret r_18_123 rfl ?_
                          first
                            | exact xq_ref k (if_neg hp)
                            | exact xq_ref k ((if_pos hp).trans (if_neg (by omega)))
                            | exact xq_ref k ((if_pos hp).trans ((if_pos hq).trans (if_neg (fun z => hv1 z.1))))
                            | exact xq_ref k ((if_pos hp).trans ((if_pos hq).trans (if_neg (fun z => hv2 z.2.1))))
                            | exact xq_ref k ((if_pos hp).trans ((if_pos hq).trans (if_neg (fun z => absurd hl (Int32.not_lt.mpr z.2.2.1)))))
                            | exact xq_ref k ((if_pos hp).trans ((if_pos hq).trans (if_neg (fun z => hc z.2.2.2.1))))
                            | exact xq_ref k ((if_pos hp).trans ((if_pos hq).trans (if_neg (fun z => absurd hs1 (Int32.not_lt.mpr z.2.2.2.2.1)))))
                            | exact xq_ref k ((if_pos hp).trans ((if_pos hq).trans (if_neg (fun z => hs2 z.2.2.2.2.2))))
                            | exact xq_ref k ((if_pos hp).trans ((if_pos hq).trans ((if_pos ⟨hv1, hv2, Int32.not_lt.mp hl, hc, Int32.not_lt.mp hs1, hs2⟩).trans (by rw [hcl, bI_n0 ho]; rfl))))
                            | exact xq_ref k ((if_pos hp).trans ((if_pos hq).trans ((if_pos ⟨hv1, hv2, Int32.not_lt.mp hl, hc, Int32.not_lt.mp hs1, hs2⟩).trans (by rw [hcl, (bI_0 _).mp ho]; exact if_pos (Or.inl hr)))))
                            | exact xq_ref k ((if_pos hp).trans ((if_pos hq).trans ((if_pos ⟨hv1, hv2, Int32.not_lt.mp hl, hc, Int32.not_lt.mp hs1, hs2⟩).trans (by rw [hcl, (bI_0 _).mp ho]; exact if_pos (Or.inr (Int32.not_le.mp hm))))))
                            | exact xq_ref k ((if_pos hp).trans ((if_pos hq).trans ((if_pos ⟨hv1, hv2, Int32.not_lt.mp hl, hc, Int32.not_lt.mp hs1, hs2⟩).trans (by rw [hcl, (bI_0 _).mp ho]; exact if_neg (fun z => z.elim (fun z => by omega) (fun z => absurd hm (Int32.not_le.mpr z)))))))
                    · refine xs_gst 90 r_18_87 rfl ?_
                      refine xs_ret r_18_90 rfl ?_
                      first
                        | exact xq_ref k (if_neg hp)
                        | exact xq_ref k ((if_pos hp).trans (if_neg (by omega)))
                        | exact xq_ref k ((if_pos hp).trans ((if_pos hq).trans (if_neg (fun z => hv1 z.1))))
                        | exact xq_ref k ((if_pos hp).trans ((if_pos hq).trans (if_neg (fun z => hv2 z.2.1))))
                        | exact xq_ref k ((if_pos hp).trans ((if_pos hq).trans (if_neg (fun z => absurd hl (Int32.not_lt.mpr z.2.2.1)))))
                        | exact xq_ref k ((if_pos hp).trans ((if_pos hq).trans (if_neg (fun z => hc z.2.2.2.1))))
                        | exact xq_ref k ((if_pos hp).trans ((if_pos hq).trans (if_neg (fun z => absurd hs1 (Int32.not_lt.mpr z.2.2.2.2.1)))))
                        | exact xq_ref k ((if_pos hp).trans ((if_pos hq).trans (if_neg (fun z => hs2 z.2.2.2.2.2))))
                        | exact xq_ref k ((if_pos hp).trans ((if_pos hq).trans ((if_pos ⟨hv1, hv2, Int32.not_lt.mp hl, hc, Int32.not_lt.mp hs1, hs2⟩).trans (by rw [hcl, bI_n0 ho]; rfl))))
                        | exact xq_ref k ((if_pos hp).trans ((if_pos hq).trans ((if_pos ⟨hv1, hv2, Int32.not_lt.mp hl, hc, Int32.not_lt.mp hs1, hs2⟩).trans (by rw [hcl, (bI_0 _).mp ho]; exact if_pos (Or.inl hr)))))
                        | exact xq_ref k ((if_pos hp).trans ((if_pos hq).trans ((if_pos ⟨hv1, hv2, Int32.not_lt.mp hl, hc, Int32.not_lt.mp hs1, hs2⟩).trans (by rw [hcl, (bI_0 _).mp ho]; exact if_pos (Or.inr (Int32.not_le.mp hm))))))
                        | exact xq_ref k ((if_pos hp).trans ((if_pos hq).trans ((if_pos ⟨hv1, hv2, Int32.not_lt.mp hl, hc, Int32.not_lt.mp hs1, hs2⟩).trans (by rw [hcl, (bI_0 _).mp ho]; exact if_neg (fun z => z.elim (fun z => by omega) (fun z => absurd hm (Int32.not_le.mpr z)))))))
                  · refine xs_gst 74 r_18_71 rfl ?_
                    refine xs_ret r_18_74 rfl ?_
                    first
                      | exact xq_ref k (if_neg hp)
                      | exact xq_ref k ((if_pos hp).trans (if_neg (by omega)))
                      | exact xq_ref k ((if_pos hp).trans ((if_pos hq).trans (if_neg (fun z => hv1 z.1))))
                      | exact xq_ref k ((if_pos hp).trans ((if_pos hq).trans (if_neg (fun z => hv2 z.2.1))))
                      | exact xq_ref k ((if_pos hp).trans ((if_pos hq).trans (if_neg (fun z => absurd hl (Int32.not_lt.mpr z.2.2.1)))))
                      | exact xq_ref k ((if_pos hp).trans ((if_pos hq).trans (if_neg (fun z => hc z.2.2.2.1))))
                      | exact xq_ref k ((if_pos hp).trans ((if_pos hq).trans (if_neg (fun z => absurd hs1 (Int32.not_lt.mpr z.2.2.2.2.1)))))
                      | exact xq_ref k ((if_pos hp).trans ((if_pos hq).trans (if_neg (fun z => hs2 z.2.2.2.2.2))))
                      | exact xq_ref k ((if_pos hp).trans ((if_pos hq).trans ((if_pos ⟨hv1, hv2, Int32.not_lt.mp hl, hc, Int32.not_lt.mp hs1, hs2⟩).trans (by rw [hcl, bI_n0 ho]; rfl))))
                      | exact xq_ref k ((if_pos hp).trans ((if_pos hq).trans ((if_pos ⟨hv1, hv2, Int32.not_lt.mp hl, hc, Int32.not_lt.mp hs1, hs2⟩).trans (by rw [hcl, (bI_0 _).mp ho]; exact if_pos (Or.inl hr)))))
                      | exact xq_ref k ((if_pos hp).trans ((if_pos hq).trans ((if_pos ⟨hv1, hv2, Int32.not_lt.mp hl, hc, Int32.not_lt.mp hs1, hs2⟩).trans (by rw [hcl, (bI_0 _).mp ho]; exact if_pos (Or.inr (Int32.not_le.mp hm))))))
                      | exact xq_ref k ((if_pos hp).trans ((if_pos hq).trans ((if_pos ⟨hv1, hv2, Int32.not_lt.mp hl, hc, Int32.not_lt.mp hs1, hs2⟩).trans (by rw [hcl, (bI_0 _).mp ho]; exact if_neg (fun z => z.elim (fun z => by omega) (fun z => absurd hm (Int32.not_le.mpr z)))))))
              · refine xK_v rfl ?_
                refine xs_f 71 r_18_55 rfl ?_
                refine xs_gst 74 r_18_71 rfl ?_
                refine xs_ret r_18_74 rfl ?_
                first
                  | exact xq_ref k (if_neg hp)
                  | exact xq_ref k ((if_pos hp).trans (if_neg (by omega)))
                  | exact xq_ref k ((if_pos hp).trans ((if_pos hq).trans (if_neg (fun z => hv1 z.1))))
                  | exact xq_ref k ((if_pos hp).trans ((if_pos hq).trans (if_neg (fun z => hv2 z.2.1))))
                  | exact xq_ref k ((if_pos hp).trans ((if_pos hq).trans (if_neg (fun z => absurd hl (Int32.not_lt.mpr z.2.2.1)))))
                  | exact xq_ref k ((if_pos hp).trans ((if_pos hq).trans (if_neg (fun z => hc z.2.2.2.1))))
                  | exact xq_ref k ((if_pos hp).trans ((if_pos hq).trans (if_neg (fun z => absurd hs1 (Int32.not_lt.mpr z.2.2.2.2.1)))))
                  | exact xq_ref k ((if_pos hp).trans ((if_pos hq).trans (if_neg (fun z => hs2 z.2.2.2.2.2))))
                  | exact xq_ref k ((if_pos hp).trans ((if_pos hq).trans ((if_pos ⟨hv1, hv2, Int32.not_lt.mp hl, hc, Int32.not_lt.mp hs1, hs2⟩).trans (by rw [hcl, bI_n0 ho]; rfl))))
                  | exact xq_ref k ((if_pos hp).trans ((if_pos hq).trans ((if_pos ⟨hv1, hv2, Int32.not_lt.mp hl, hc, Int32.not_lt.mp hs1, hs2⟩).trans (by rw [hcl, (bI_0 _).mp ho]; exact if_pos (Or.inl hr)))))
                  | exact xq_ref k ((if_pos hp).trans ((if_pos hq).trans ((if_pos ⟨hv1, hv2, Int32.not_lt.mp hl, hc, Int32.not_lt.mp hs1, hs2⟩).trans (by rw [hcl, (bI_0 _).mp ho]; exact if_pos (Or.inr (Int32.not_le.mp hm))))))
                  | exact xq_ref k ((if_pos hp).trans ((if_pos hq).trans ((if_pos ⟨hv1, hv2, Int32.not_lt.mp hl, hc, Int32.not_lt.mp hs1, hs2⟩).trans (by rw [hcl, (bI_0 _).mp ho]; exact if_neg (fun z => z.elim (fun z => by omega) (fun z => absurd hm (Int32.not_le.mpr z)))))))
          · refine xK_v rfl ?_
            refine xs_f 71 r_18_41 rfl ?_
            refine xs_gst 74 r_18_71 rfl ?_
            refine xs_ret r_18_74 rfl ?_
            first
              | exact xq_ref k (if_neg hp)
              | exact xq_ref k ((if_pos hp).trans (if_neg (by omega)))
              | exact xq_ref k ((if_pos hp).trans ((if_pos hq).trans (if_neg (fun z => hv1 z.1))))
              | exact xq_ref k ((if_pos hp).trans ((if_pos hq).trans (if_neg (fun z => hv2 z.2.1))))
              | exact xq_ref k ((if_pos hp).trans ((if_pos hq).trans (if_neg (fun z => absurd hl (Int32.not_lt.mpr z.2.2.1)))))
              | exact xq_ref k ((if_pos hp).trans ((if_pos hq).trans (if_neg (fun z => hc z.2.2.2.1))))
              | exact xq_ref k ((if_pos hp).trans ((if_pos hq).trans (if_neg (fun z => absurd hs1 (Int32.not_lt.mpr z.2.2.2.2.1)))))
              | exact xq_ref k ((if_pos hp).trans ((if_pos hq).trans (if_neg (fun z => hs2 z.2.2.2.2.2))))
              | exact xq_ref k ((if_pos hp).trans ((if_pos hq).trans ((if_pos ⟨hv1, hv2, Int32.not_lt.mp hl, hc, Int32.not_lt.mp hs1, hs2⟩).trans (by rw [hcl, bI_n0 ho]; rfl))))
              | exact xq_ref k ((if_pos hp).trans ((if_pos hq).trans ((if_pos ⟨hv1, hv2, Int32.not_lt.mp hl, hc, Int32.not_lt.mp hs1, hs2⟩).trans (by rw [hcl, (bI_0 _).mp ho]; exact if_pos (Or.inl hr)))))
              | exact xq_ref k ((if_pos hp).trans ((if_pos hq).trans ((if_pos ⟨hv1, hv2, Int32.not_lt.mp hl, hc, Int32.not_lt.mp hs1, hs2⟩).trans (by rw [hcl, (bI_0 _).mp ho]; exact if_pos (Or.inr (Int32.not_le.mp hm))))))
              | exact xq_ref k ((if_pos hp).trans ((if_pos hq).trans ((if_pos ⟨hv1, hv2, Int32.not_lt.mp hl, hc, Int32.not_lt.mp hs1, hs2⟩).trans (by rw [hcl, (bI_0 _).mp ho]; exact if_neg (fun z => z.elim (fun z => by omega) (fun z => absurd hm (Int32.not_le.mpr z)))))))
        · refine xK_v rfl ?_
          refine xs_f 71 r_18_33 rfl ?_
          refine xs_gst 74 r_18_71 rfl ?_
          refine xs_ret r_18_74 rfl ?_
          first
            | exact xq_ref k (if_neg hp)
            | exact xq_ref k ((if_pos hp).trans (if_neg (by omega)))
            | exact xq_ref k ((if_pos hp).trans ((if_pos hq).trans (if_neg (fun z => hv1 z.1))))
            | exact xq_ref k ((if_pos hp).trans ((if_pos hq).trans (if_neg (fun z => hv2 z.2.1))))
            | exact xq_ref k ((if_pos hp).trans ((if_pos hq).trans (if_neg (fun z => absurd hl (Int32.not_lt.mpr z.2.2.1)))))
            | exact xq_ref k ((if_pos hp).trans ((if_pos hq).trans (if_neg (fun z => hc z.2.2.2.1))))
            | exact xq_ref k ((if_pos hp).trans ((if_pos hq).trans (if_neg (fun z => absurd hs1 (Int32.not_lt.mpr z.2.2.2.2.1)))))
            | exact xq_ref k ((if_pos hp).trans ((if_pos hq).trans (if_neg (fun z => hs2 z.2.2.2.2.2))))
            | exact xq_ref k ((if_pos hp).trans ((if_pos hq).trans ((if_pos ⟨hv1, hv2, Int32.not_lt.mp hl, hc, Int32.not_lt.mp hs1, hs2⟩).trans (by rw [hcl, bI_n0 ho]; rfl))))
            | exact xq_ref k ((if_pos hp).trans ((if_pos hq).trans ((if_pos ⟨hv1, hv2, Int32.not_lt.mp hl, hc, Int32.not_lt.mp hs1, hs2⟩).trans (by rw [hcl, (bI_0 _).mp ho]; exact if_pos (Or.inl hr)))))
            | exact xq_ref k ((if_pos hp).trans ((if_pos hq).trans ((if_pos ⟨hv1, hv2, Int32.not_lt.mp hl, hc, Int32.not_lt.mp hs1, hs2⟩).trans (by rw [hcl, (bI_0 _).mp ho]; exact if_pos (Or.inr (Int32.not_le.mp hm))))))
            | exact xq_ref k ((if_pos hp).trans ((if_pos hq).trans ((if_pos ⟨hv1, hv2, Int32.not_lt.mp hl, hc, Int32.not_lt.mp hs1, hs2⟩).trans (by rw [hcl, (bI_0 _).mp ho]; exact if_neg (fun z => z.elim (fun z => by omega) (fun z => absurd hm (Int32.not_le.mpr z)))))))
    · refine xK_v rfl ?_
      refine xs_f 19 (lv2 := [(7, _), (0, _), (1, _), (2, _), (3, _), (4, _), (5, _), (6, _)]) r_18_17 rfl ?_
      refine xs_f 21 r_18_19 rfl ?_
      refine xs_f 22 r_18_21 rfl ?_
      refine xs_f 25 r_18_22 rfl ?_
      refine xs_gst 28 r_18_25 rfl ?_
      refine xs_ret r_18_28 rfl ?_
      first
        | exact xq_ref k (if_neg hp)
        | exact xq_ref k ((if_pos hp).trans (if_neg (by omega)))
        | exact xq_ref k ((if_pos hp).trans ((if_pos hq).trans (if_neg (fun z => hv1 z.1))))
        | exact xq_ref k ((if_pos hp).trans ((if_pos hq).trans (if_neg (fun z => hv2 z.2.1))))
        | exact xq_ref k ((if_pos hp).trans ((if_pos hq).trans (if_neg (fun z => absurd hl (Int32.not_lt.mpr z.2.2.1)))))
        | exact xq_ref k ((if_pos hp).trans ((if_pos hq).trans (if_neg (fun z => hc z.2.2.2.1))))
        | exact xq_ref k ((if_pos hp).trans ((if_pos hq).trans (if_neg (fun z => absurd hs1 (Int32.not_lt.mpr z.2.2.2.2.1)))))
        | exact xq_ref k ((if_pos hp).trans ((if_pos hq).trans (if_neg (fun z => hs2 z.2.2.2.2.2))))
        | exact xq_ref k ((if_pos hp).trans ((if_pos hq).trans ((if_pos ⟨hv1, hv2, Int32.not_lt.mp hl, hc, Int32.not_lt.mp hs1, hs2⟩).trans (by rw [hcl, bI_n0 ho]; rfl))))
        | exact xq_ref k ((if_pos hp).trans ((if_pos hq).trans ((if_pos ⟨hv1, hv2, Int32.not_lt.mp hl, hc, Int32.not_lt.mp hs1, hs2⟩).trans (by rw [hcl, (bI_0 _).mp ho]; exact if_pos (Or.inl hr)))))
        | exact xq_ref k ((if_pos hp).trans ((if_pos hq).trans ((if_pos ⟨hv1, hv2, Int32.not_lt.mp hl, hc, Int32.not_lt.mp hs1, hs2⟩).trans (by rw [hcl, (bI_0 _).mp ho]; exact if_pos (Or.inr (Int32.not_le.mp hm))))))
        | exact xq_ref k ((if_pos hp).trans ((if_pos hq).trans ((if_pos ⟨hv1, hv2, Int32.not_lt.mp hl, hc, Int32.not_lt.mp hs1, hs2⟩).trans (by rw [hcl, (bI_0 _).mp ho]; exact if_neg (fun z => z.elim (fun z => by omega) (fun z => absurd hm (Int32.not_le.mpr z)))))))
  · refine xK_v rfl ?_
    refine xs_f 8 r_18_5 rfl ?_
    refine xs_gst 11 r_18_8 rfl ?_
    refine xs_ret r_18_11 rfl ?_
    first
      | exact xq_ref k (if_neg hp)
      | exact xq_ref k ((if_pos hp).trans (if_neg (by omega)))
      | exact xq_ref k ((if_pos hp).trans ((if_pos hq).trans (if_neg (fun z => hv1 z.1))))
      | exact xq_ref k ((if_pos hp).trans ((if_pos hq).trans (if_neg (fun z => hv2 z.2.1))))
      | exact xq_ref k ((if_pos hp).trans ((if_pos hq).trans (if_neg (fun z => absurd hl (Int32.not_lt.mpr z.2.2.1)))))
      | exact xq_ref k ((if_pos hp).trans ((if_pos hq).trans (if_neg (fun z => hc z.2.2.2.1))))
      | exact xq_ref k ((if_pos hp).trans ((if_pos hq).trans (if_neg (fun z => absurd hs1 (Int32.not_lt.mpr z.2.2.2.2.1)))))
      | exact xq_ref k ((if_pos hp).trans ((if_pos hq).trans (if_neg (fun z => hs2 z.2.2.2.2.2))))
      | exact xq_ref k ((if_pos hp).trans ((if_pos hq).trans ((if_pos ⟨hv1, hv2, Int32.not_lt.mp hl, hc, Int32.not_lt.mp hs1, hs2⟩).trans (by rw [hcl, bI_n0 ho]; rfl))))
      | exact xq_ref k ((if_pos hp).trans ((if_pos hq).trans ((if_pos ⟨hv1, hv2, Int32.not_lt.mp hl, hc, Int32.not_lt.mp hs1, hs2⟩).trans (by rw [hcl, (bI_0 _).mp ho]; exact if_pos (Or.inl hr)))))
      | exact xq_ref k ((if_pos hp).trans ((if_pos hq).trans ((if_pos ⟨hv1, hv2, Int32.not_lt.mp hl, hc, Int32.not_lt.mp hs1, hs2⟩).trans (by rw [hcl, (bI_0 _).mp ho]; exact if_pos (Or.inr (Int32.not_le.mp hm))))))
      | exact xq_ref k ((if_pos hp).trans ((if_pos hq).trans ((if_pos ⟨hv1, hv2, Int32.not_lt.mp hl, hc, Int32.not_lt.mp hs1, hs2⟩).trans (by rw [hcl, (bI_0 _).mp ho]; exact if_neg (fun z => z.elim (fun z => by omega) (fun z => absurd hm (Int32.not_le.mpr z)))))))

theorem c_19 {S : XSc} {d : Nat} {h : XH} {Q : XO → XH → Prop} {b np no : Nat} {nn : Int32} {sc : Nat} {ho : Int32} {TS TH tr : Nat → Int32} {pl : Nat → XPl} {q : Nat → XQu} {s : Nat → Nat} {R : Nat → Nat → Nat} (hB : BdP h.1 b np no nn sc ho TS TH tr pl q s R) (h32 : 32 ≤ b) {i j : Nat} {n lo hi c sk : Int32} (hi5 : i < 5) (hj : pla q no n = j) (hjn : j < no) (hm : (q j).2.2.1 < 5) (k : ∀ f R, BdP f b np no nn sc ho TS TH tr (xw pl i ((pl i).1 - sk, (pl i).2)) (xw q j ((q j).1, ((q j).2.1, ((q j).2.2.1 + 1, xw (q j).2.2.2 (q j).2.2.1 (nI i, (lo, (hi, (c, sk)))))))) s R → Fr h.1 f b (b + 69) → Q (.inl (some (.int ((pl i).1 - sk)))) (f, h.2)) : xP S (d + 2) 19 0 [(0, .ref b), (1, .int (nI i)), (2, .int n), (3, .int lo), (4, .int hi), (5, .int c), (6, .int sk)] [] h Q := by
  obtain ⟨b1, ⟨b2n, b2o, b2s⟩, b3, b4, b5, b6, b7, b8, b9, b10⟩ := id hB
  have z8 := b8 j (by omega)
  have z5 := (b10 j (by omega)).2.2.2.1 (q j).2.2.1 hm
  refine xs_f 1 r_19_0 rfl ?_
  refine xs_f 2 r_19_1 rfl ?_
  refine xs_call (lv2 := [(0, _), (1, _)]) r_19_2 rfl rfl (by decide) (xcan_0 rfl rfl (by first | assumption | exact xup_s | exact e1 | exact (e7 _ (by omega)).1 | exact ((y3 b (by omega)).trans e1) | exact x3 | exact (b10 j (by omega)).1 | exact (b7 _ (by omega)).1 | exact (b10 _ (by omega)).1 | (refine (xup_n (by omega)).trans ?_; first | assumption | exact xup_s | exact e1 | exact (e7 _ (by omega)).1 | exact ((y3 b (by omega)).trans e1) | exact x3 | exact (b10 j (by omega)).1 | exact (b7 _ (by omega)).1 | exact (b10 _ (by omega)).1) | (refine (xup_n (by omega)).trans ((xup_n (by omega)).trans ?_); first | assumption | exact xup_s | exact e1 | exact (e7 _ (by omega)).1 | exact ((y3 b (by omega)).trans e1) | exact x3 | exact (b10 j (by omega)).1 | exact (b7 _ (by omega)).1 | exact (b10 _ (by omega)).1) | (refine (xup_n (by omega)).trans ((xup_n (by omega)).trans ((xup_n (by omega)).trans ?_)); first | assumption | exact xup_s | exact e1 | exact (e7 _ (by omega)).1 | exact ((y3 b (by omega)).trans e1) | exact x3 | exact (b10 j (by omega)).1 | exact (b7 _ (by omega)).1 | exact (b10 _ (by omega)).1)) (by rfl)) rfl (c_13 hB h32 (fun hq => ?_) (fun hq => ?_))
  · rw [hj]
    refine xK_v rfl ?_
    refine xs_f 7 (lv2 := [(7, _), (0, _), (1, _), (2, _), (3, _), (4, _), (5, _), (6, _)]) r_19_5 rfl ?_
    refine xs_f 9 r_19_7 rfl ?_
    refine xs_f 10 r_19_9 rfl ?_
    refine xs_if 47 13 r_19_10 rfl (fun hc1 => ?_) (fun hc1 => ?_)
    · exact absurd hc1 (nI_m1 rfl (by omega))
    · refine xs_f 14 r_19_13 rfl ?_
      refine xs_get 17 r_19_14 rfl rfl (by first | assumption | exact xup_s | exact e1 | exact (e7 _ (by omega)).1 | exact ((y3 b (by omega)).trans e1) | exact x3 | exact (b10 j (by omega)).1 | exact (b7 _ (by omega)).1 | exact (b10 _ (by omega)).1 | (refine (xup_n (by omega)).trans ?_; first | assumption | exact xup_s | exact e1 | exact (e7 _ (by omega)).1 | exact ((y3 b (by omega)).trans e1) | exact x3 | exact (b10 j (by omega)).1 | exact (b7 _ (by omega)).1 | exact (b10 _ (by omega)).1) | (refine (xup_n (by omega)).trans ((xup_n (by omega)).trans ?_); first | assumption | exact xup_s | exact e1 | exact (e7 _ (by omega)).1 | exact ((y3 b (by omega)).trans e1) | exact x3 | exact (b10 j (by omega)).1 | exact (b7 _ (by omega)).1 | exact (b10 _ (by omega)).1) | (refine (xup_n (by omega)).trans ((xup_n (by omega)).trans ((xup_n (by omega)).trans ?_)); first | assumption | exact xup_s | exact e1 | exact (e7 _ (by omega)).1 | exact ((y3 b (by omega)).trans e1) | exact x3 | exact (b10 j (by omega)).1 | exact (b7 _ (by omega)).1 | exact (b10 _ (by omega)).1)) (by rfl) ?_
      refine xs_f 19 r_19_17 rfl ?_
      refine xs_aldR 20 r_19_19 (fun _ _ => rfl) rfl rfl rfl (j := j) rfl (by first | assumption | exact e3 | exact (e3.fr (y3 _ (by omega))) | (refine RA.fr ?_ (xup_n (by omega)); first | assumption | exact e3 | exact (e3.fr (y3 _ (by omega)))) | (refine RA.fr (RA.fr ?_ (xup_n (by omega))) (xup_n (by omega)); first | assumption | exact e3 | exact (e3.fr (y3 _ (by omega)))) | (refine RA.fr (RA.fr (RA.fr ?_ (xup_n (by omega))) (xup_n (by omega))) (xup_n (by omega)); first | assumption | exact e3 | exact (e3.fr (y3 _ (by omega))))) (by omega) ?_
      refine xs_f 21 r_19_20 rfl ?_
      refine xs_f 22 r_19_21 rfl ?_
      refine xs_f 24 r_19_22 rfl ?_
      refine xs_f 26 r_19_24 rfl ?_
      refine xs_f 28 r_19_26 rfl ?_
      refine xs_call (lv2 := [(0, _), (1, _), (2, _), (3, _), (4, _), (5, _)]) r_19_28 rfl rfl (by decide) (xcan_0 rfl rfl (by first | assumption | exact xup_s | exact e1 | exact (e7 _ (by omega)).1 | exact ((y3 b (by omega)).trans e1) | exact x3 | exact (b10 j (by omega)).1 | exact (b7 _ (by omega)).1 | exact (b10 _ (by omega)).1 | (refine (xup_n (by omega)).trans ?_; first | assumption | exact xup_s | exact e1 | exact (e7 _ (by omega)).1 | exact ((y3 b (by omega)).trans e1) | exact x3 | exact (b10 j (by omega)).1 | exact (b7 _ (by omega)).1 | exact (b10 _ (by omega)).1) | (refine (xup_n (by omega)).trans ((xup_n (by omega)).trans ?_); first | assumption | exact xup_s | exact e1 | exact (e7 _ (by omega)).1 | exact ((y3 b (by omega)).trans e1) | exact x3 | exact (b10 j (by omega)).1 | exact (b7 _ (by omega)).1 | exact (b10 _ (by omega)).1) | (refine (xup_n (by omega)).trans ((xup_n (by omega)).trans ((xup_n (by omega)).trans ?_)); first | assumption | exact xup_s | exact e1 | exact (e7 _ (by omega)).1 | exact ((y3 b (by omega)).trans e1) | exact x3 | exact (b10 j (by omega)).1 | exact (b7 _ (by omega)).1 | exact (b10 _ (by omega)).1)) (by rfl)) rfl (c_79 (b10 j (by omega)) (by omega) hm (fun f1 x1 y1 => ?_))
      refine xK_0 rfl ?_
      have hB2 := hB.que (i := j) (by omega) x1 y1
      obtain ⟨e1, -, e3, -, -, -, e7, -⟩ := id hB2
      refine xs_f 32 r_19_31 rfl ?_
      refine xs_get 35 r_19_32 rfl rfl (by first | assumption | exact xup_s | exact e1 | exact (e7 _ (by omega)).1 | exact ((y3 b (by omega)).trans e1) | exact x3 | exact (b10 j (by omega)).1 | exact (b7 _ (by omega)).1 | exact (b10 _ (by omega)).1 | (refine (xup_n (by omega)).trans ?_; first | assumption | exact xup_s | exact e1 | exact (e7 _ (by omega)).1 | exact ((y3 b (by omega)).trans e1) | exact x3 | exact (b10 j (by omega)).1 | exact (b7 _ (by omega)).1 | exact (b10 _ (by omega)).1) | (refine (xup_n (by omega)).trans ((xup_n (by omega)).trans ?_); first | assumption | exact xup_s | exact e1 | exact (e7 _ (by omega)).1 | exact ((y3 b (by omega)).trans e1) | exact x3 | exact (b10 j (by omega)).1 | exact (b7 _ (by omega)).1 | exact (b10 _ (by omega)).1) | (refine (xup_n (by omega)).trans ((xup_n (by omega)).trans ((xup_n (by omega)).trans ?_)); first | assumption | exact xup_s | exact e1 | exact (e7 _ (by omega)).1 | exact ((y3 b (by omega)).trans e1) | exact x3 | exact (b10 j (by omega)).1 | exact (b7 _ (by omega)).1 | exact (b10 _ (by omega)).1)) (by rfl) ?_
      refine xs_f 36 r_19_35 rfl ?_
      refine xs_aldR 37 r_19_36 (fun _ _ => rfl) rfl rfl rfl (j := i) rfl (by first | assumption | exact e3 | exact (e3.fr (y3 _ (by omega))) | (refine RA.fr ?_ (xup_n (by omega)); first | assumption | exact e3 | exact (e3.fr (y3 _ (by omega)))) | (refine RA.fr (RA.fr ?_ (xup_n (by omega))) (xup_n (by omega)); first | assumption | exact e3 | exact (e3.fr (y3 _ (by omega)))) | (refine RA.fr (RA.fr (RA.fr ?_ (xup_n (by omega))) (xup_n (by omega))) (xup_n (by omega)); first | assumption | exact e3 | exact (e3.fr (y3 _ (by omega))))) (by omega) ?_
      refine xs_f 38 r_19_37 rfl ?_
      refine xs_get 41 r_19_38 rfl rfl (by first | assumption | exact xup_s | exact e1 | exact (e7 _ (by omega)).1 | exact ((y3 b (by omega)).trans e1) | exact x3 | exact (b10 j (by omega)).1 | exact (b7 _ (by omega)).1 | exact (b10 _ (by omega)).1 | (refine (xup_n (by omega)).trans ?_; first | assumption | exact xup_s | exact e1 | exact (e7 _ (by omega)).1 | exact ((y3 b (by omega)).trans e1) | exact x3 | exact (b10 j (by omega)).1 | exact (b7 _ (by omega)).1 | exact (b10 _ (by omega)).1) | (refine (xup_n (by omega)).trans ((xup_n (by omega)).trans ?_); first | assumption | exact xup_s | exact e1 | exact (e7 _ (by omega)).1 | exact ((y3 b (by omega)).trans e1) | exact x3 | exact (b10 j (by omega)).1 | exact (b7 _ (by omega)).1 | exact (b10 _ (by omega)).1) | (refine (xup_n (by omega)).trans ((xup_n (by omega)).trans ((xup_n (by omega)).trans ?_)); first | assumption | exact xup_s | exact e1 | exact (e7 _ (by omega)).1 | exact ((y3 b (by omega)).trans e1) | exact x3 | exact (b10 j (by omega)).1 | exact (b7 _ (by omega)).1 | exact (b10 _ (by omega)).1)) (by rfl) ?_
      refine xs_f 43 r_19_41 rfl ?_
      refine xs_f 44 r_19_43 rfl ?_
      refine xs_putC 47 r_19_44 rfl (by first | assumption | exact xup_s | exact e1 | exact (e7 _ (by omega)).1 | exact ((y3 b (by omega)).trans e1) | exact x3 | exact (b10 j (by omega)).1 | exact (b7 _ (by omega)).1 | exact (b10 _ (by omega)).1 | (refine (xup_n (by omega)).trans ?_; first | assumption | exact xup_s | exact e1 | exact (e7 _ (by omega)).1 | exact ((y3 b (by omega)).trans e1) | exact x3 | exact (b10 j (by omega)).1 | exact (b7 _ (by omega)).1 | exact (b10 _ (by omega)).1) | (refine (xup_n (by omega)).trans ((xup_n (by omega)).trans ?_); first | assumption | exact xup_s | exact e1 | exact (e7 _ (by omega)).1 | exact ((y3 b (by omega)).trans e1) | exact x3 | exact (b10 j (by omega)).1 | exact (b7 _ (by omega)).1 | exact (b10 _ (by omega)).1) | (refine (xup_n (by omega)).trans ((xup_n (by omega)).trans ((xup_n (by omega)).trans ?_)); first | assumption | exact xup_s | exact e1 | exact (e7 _ (by omega)).1 | exact ((y3 b (by omega)).trans e1) | exact x3 | exact (b10 j (by omega)).1 | exact (b7 _ (by omega)).1 | exact (b10 _ (by omega)).1)) (by rfl) (by rfl) (fun f3 x3 y3 => ?_)
      refine xs_f 48 r_19_47 rfl ?_
      refine xs_get 51 r_19_48 rfl rfl (by first | assumption | exact xup_s | exact e1 | exact (e7 _ (by omega)).1 | exact ((y3 b (by omega)).trans e1) | exact x3 | exact (b10 j (by omega)).1 | exact (b7 _ (by omega)).1 | exact (b10 _ (by omega)).1 | (refine (xup_n (by omega)).trans ?_; first | assumption | exact xup_s | exact e1 | exact (e7 _ (by omega)).1 | exact ((y3 b (by omega)).trans e1) | exact x3 | exact (b10 j (by omega)).1 | exact (b7 _ (by omega)).1 | exact (b10 _ (by omega)).1) | (refine (xup_n (by omega)).trans ((xup_n (by omega)).trans ?_); first | assumption | exact xup_s | exact e1 | exact (e7 _ (by omega)).1 | exact ((y3 b (by omega)).trans e1) | exact x3 | exact (b10 j (by omega)).1 | exact (b7 _ (by omega)).1 | exact (b10 _ (by omega)).1) | (refine (xup_n (by omega)).trans ((xup_n (by omega)).trans ((xup_n (by omega)).trans ?_)); first | assumption | exact xup_s | exact e1 | exact (e7 _ (by omega)).1 | exact ((y3 b (by omega)).trans e1) | exact x3 | exact (b10 j (by omega)).1 | exact (b7 _ (by omega)).1 | exact (b10 _ (by omega)).1)) (by rfl) ?_
      refine xs_f 52 r_19_51 rfl ?_
      refine xs_aldR 53 r_19_52 (fun _ _ => rfl) rfl rfl rfl (j := i) rfl (by first | assumption | exact e3 | exact (e3.fr (y3 _ (by omega))) | (refine RA.fr ?_ (xup_n (by omega)); first | assumption | exact e3 | exact (e3.fr (y3 _ (by omega)))) | (refine RA.fr (RA.fr ?_ (xup_n (by omega))) (xup_n (by omega)); first | assumption | exact e3 | exact (e3.fr (y3 _ (by omega)))) | (refine RA.fr (RA.fr (RA.fr ?_ (xup_n (by omega))) (xup_n (by omega))) (xup_n (by omega)); first | assumption | exact e3 | exact (e3.fr (y3 _ (by omega))))) (by omega) ?_
      refine xs_get 56 r_19_53 rfl rfl (by first | assumption | exact xup_s | exact e1 | exact (e7 _ (by omega)).1 | exact ((y3 b (by omega)).trans e1) | exact x3 | exact (b10 j (by omega)).1 | exact (b7 _ (by omega)).1 | exact (b10 _ (by omega)).1 | (refine (xup_n (by omega)).trans ?_; first | assumption | exact xup_s | exact e1 | exact (e7 _ (by omega)).1 | exact ((y3 b (by omega)).trans e1) | exact x3 | exact (b10 j (by omega)).1 | exact (b7 _ (by omega)).1 | exact (b10 _ (by omega)).1) | (refine (xup_n (by omega)).trans ((xup_n (by omega)).trans ?_); first | assumption | exact xup_s | exact e1 | exact (e7 _ (by omega)).1 | exact ((y3 b (by omega)).trans e1) | exact x3 | exact (b10 j (by omega)).1 | exact (b7 _ (by omega)).1 | exact (b10 _ (by omega)).1) | (refine (xup_n (by omega)).trans ((xup_n (by omega)).trans ((xup_n (by omega)).trans ?_)); first | assumption | exact xup_s | exact e1 | exact (e7 _ (by omega)).1 | exact ((y3 b (by omega)).trans e1) | exact x3 | exact (b10 j (by omega)).1 | exact (b7 _ (by omega)).1 | exact (b10 _ (by omega)).1)) (by rfl) ?_
      refine xs_ret r_19_56 rfl ?_
      exact k f3 _ (hB2.ply hi5 ⟨x3, (e7 i hi5).2.fr (fun c z1 z2 => y3 c (by omega))⟩ (y3.wd (by omega) (by omega))) ((y1.wd (by omega) (by omega)).tr (y3.wd (by omega) (by omega)))
  · omega

theorem l_23 {S : XSc} {d : Nat} {h : XH} {Q : XO → XH → Prop} {b np no : Nat} {nn : Int32} {sc : Nat} {ho : Int32} {TS TH tr : Nat → Int32} {pl : Nat → XPl} {q : Nat → XQu} {s : Nat → Nat} {R : Nat → Nat → Nat} (hB : BdP h.1 b np no nn sc ho TS TH tr pl q s R) (h32 : 32 ≤ b) {t : Int32} (hs : sc < 100000) (k : ∀ f, BdP f b np no nn (sc + 1) ho TS TH (fun j => if j = 0 then t else tr (j - 1)) pl q s R → Fr h.1 f b (b + 69) → Q (.inl none) (f, h.2)) : ∀ (m : Nat) (i : Nat) (f : Nat → Option XE), i < m → (i ≤ 4) → (IA f 0 (b + 6) 5 (fun j => if j ≤ i then tr j else tr (j - 1))) → (Fr h.1 f (b + 6) (b + 6 + 1)) → xP S d 23 2 [(0, .ref b), (1, .int t), (2, .int (nI i))] [] (f, h.2) Q := by
  intro m
  induction m with
  | zero => intro i f hm; exact absurd hm (Nat.not_lt_zero _)
  | succ m ih =>
    intro i f hm hi hR hF
    obtain ⟨b1, ⟨b2n, b2o, b2s⟩, b3, b4, b5, b6, b7, b8, b9, b10⟩ := id hB
    have f1 := (hF b (by omega)).trans b1
    refine xs_f 3 r_23_2 rfl ?_
    refine xs_if 26 6 r_23_3 rfl (fun hc1 => ?_) (fun hc1 => ?_)
    · have hc1 := (nI_leN rfl (nI_k 0) (by omega) (by omega)).mp hc1
      refine xs_f 27 r_23_26 rfl ?_
      refine xs_get 30 r_23_27 rfl rfl (by first | assumption | exact xup_s | exact f1 | exact ((y2 b (by omega)).trans f1) | (refine (xup_n (by omega)).trans ?_; first | assumption | exact xup_s | exact f1 | exact ((y2 b (by omega)).trans f1)) | (refine (xup_n (by omega)).trans ((xup_n (by omega)).trans ?_); first | assumption | exact xup_s | exact f1 | exact ((y2 b (by omega)).trans f1)) | (refine (xup_n (by omega)).trans ((xup_n (by omega)).trans ((xup_n (by omega)).trans ?_)); first | assumption | exact xup_s | exact f1 | exact ((y2 b (by omega)).trans f1))) (by rfl) ?_
      refine xs_f 31 r_23_30 rfl ?_
      refine xs_f 32 r_23_31 rfl ?_
      refine xs_astI 33 r_23_32 (fun _ _ => rfl) rfl rfl rfl (j := 0) (nI_k 0) (by first | assumption | (refine IA.fr ?_ (xup_n (by omega)); first | assumption) | (refine IA.fr (IA.fr ?_ (xup_n (by omega))) (xup_n (by omega)); first | assumption) | (refine IA.fr (IA.fr (IA.fr ?_ (xup_n (by omega))) (xup_n (by omega))) (xup_n (by omega)); first | assumption)) (by omega) (fun f2 x2 y2 => ?_)
      refine xs_f 34 r_23_33 rfl ?_
      refine xs_f 35 r_23_34 rfl ?_
      refine xs_get 38 r_23_35 rfl rfl (by first | assumption | exact xup_s | exact f1 | exact ((y2 b (by omega)).trans f1) | (refine (xup_n (by omega)).trans ?_; first | assumption | exact xup_s | exact f1 | exact ((y2 b (by omega)).trans f1)) | (refine (xup_n (by omega)).trans ((xup_n (by omega)).trans ?_); first | assumption | exact xup_s | exact f1 | exact ((y2 b (by omega)).trans f1)) | (refine (xup_n (by omega)).trans ((xup_n (by omega)).trans ((xup_n (by omega)).trans ?_)); first | assumption | exact xup_s | exact f1 | exact ((y2 b (by omega)).trans f1))) (by rfl) ?_
      refine xs_f 39 r_23_38 rfl ?_
      refine xs_f 40 r_23_39 rfl ?_
      refine xs_putC 43 r_23_40 rfl (by first | assumption | exact xup_s | exact f1 | exact ((y2 b (by omega)).trans f1) | (refine (xup_n (by omega)).trans ?_; first | assumption | exact xup_s | exact f1 | exact ((y2 b (by omega)).trans f1)) | (refine (xup_n (by omega)).trans ((xup_n (by omega)).trans ?_); first | assumption | exact xup_s | exact f1 | exact ((y2 b (by omega)).trans f1)) | (refine (xup_n (by omega)).trans ((xup_n (by omega)).trans ((xup_n (by omega)).trans ?_)); first | assumption | exact xup_s | exact f1 | exact ((y2 b (by omega)).trans f1))) (by rfl) (by rfl) (fun f3 x3 y3 => ?_)
      refine xs_ret r_23_43 rfl ?_
      have e : i = 0 := by omega
      subst e
      exact k f3 ((hB.tru (tr' := fun j => if j = 0 then t else tr (j - 1)) (x2.ex (fun j hj => by
        unfold xw
        (try dsimp only)
        by_cases z : j = 0
        · rw [if_pos z, if_pos z]
        · rw [if_neg z, if_neg z, if_neg (by omega)])) (hF.tr y2)).obj (x3.trans (by rw [nI_succ]; rfl)) y3 b2n b2o (by omega)) (((hF.tr y2).wd (by omega) (by omega)).tr (y3.wd (by omega) (by omega)))
    · have hc1 := mt (nI_leN rfl (nI_k 0) (by omega) (by omega)).mpr hc1
      refine xs_f 7 r_23_6 rfl ?_
      refine xs_get 10 r_23_7 rfl rfl (by first | assumption | exact xup_s | exact f1 | exact ((y2 b (by omega)).trans f1) | (refine (xup_n (by omega)).trans ?_; first | assumption | exact xup_s | exact f1 | exact ((y2 b (by omega)).trans f1)) | (refine (xup_n (by omega)).trans ((xup_n (by omega)).trans ?_); first | assumption | exact xup_s | exact f1 | exact ((y2 b (by omega)).trans f1)) | (refine (xup_n (by omega)).trans ((xup_n (by omega)).trans ((xup_n (by omega)).trans ?_)); first | assumption | exact xup_s | exact f1 | exact ((y2 b (by omega)).trans f1))) (by rfl) ?_
      refine xs_f 11 r_23_10 rfl ?_
      refine xs_f 12 r_23_11 rfl ?_
      refine xs_get 15 r_23_12 rfl rfl (by first | assumption | exact xup_s | exact f1 | exact ((y2 b (by omega)).trans f1) | (refine (xup_n (by omega)).trans ?_; first | assumption | exact xup_s | exact f1 | exact ((y2 b (by omega)).trans f1)) | (refine (xup_n (by omega)).trans ((xup_n (by omega)).trans ?_); first | assumption | exact xup_s | exact f1 | exact ((y2 b (by omega)).trans f1)) | (refine (xup_n (by omega)).trans ((xup_n (by omega)).trans ((xup_n (by omega)).trans ?_)); first | assumption | exact xup_s | exact f1 | exact ((y2 b (by omega)).trans f1))) (by rfl) ?_
      refine xs_f 16 r_23_15 rfl ?_
      refine xs_f 17 r_23_16 rfl ?_
      refine xs_f 18 r_23_17 rfl ?_
      refine xs_aldI 19 r_23_18 (fun _ _ => rfl) rfl rfl rfl (j := (i - 1)) (nI_subE rfl (nI_k 1) (by omega)) (by first | assumption | (refine IA.fr ?_ (xup_n (by omega)); first | assumption) | (refine IA.fr (IA.fr ?_ (xup_n (by omega))) (xup_n (by omega)); first | assumption) | (refine IA.fr (IA.fr (IA.fr ?_ (xup_n (by omega))) (xup_n (by omega))) (xup_n (by omega)); first | assumption)) (by omega) ?_
      (try dsimp only)
      rw [show (if i - 1 ≤ i then tr (i - 1) else tr (i - 1 - 1)) = tr (i - 1) from if_pos (by omega)]
      refine xs_astI 20 r_23_19 (fun _ _ => rfl) rfl rfl rfl (j := i) rfl (by first | assumption | (refine IA.fr ?_ (xup_n (by omega)); first | assumption) | (refine IA.fr (IA.fr ?_ (xup_n (by omega))) (xup_n (by omega)); first | assumption) | (refine IA.fr (IA.fr (IA.fr ?_ (xup_n (by omega))) (xup_n (by omega))) (xup_n (by omega)); first | assumption)) (by omega) (fun f2 x2 y2 => ?_)
      refine xs_f 23 (lv2 := [(2, _), (0, _), (1, _)]) r_23_20 rfl ?_
      refine xs_f 2 r_23_23 rfl ?_
      exact xP_lv [(0, .ref b), (1, .int t), (2, .int (nI (i - 1)))] rfl ⟨rfl, rfl, (by rw [← nI_decE (x := nI i) rfl 1 (by omega)]; rfl), trivial⟩ (ih (i - 1) f2 (by omega) (by omega) (x2.ex (fun j hj => by
        unfold xw
        (try dsimp only)
        by_cases z : j = i
        · rw [if_pos z, if_neg (by omega), z]
        · rw [if_neg z]
          by_cases z2 : j ≤ i
          · rw [if_pos z2, if_pos (by omega)]
          · rw [if_neg z2, if_neg (by omega)])) (hF.tr y2))

theorem c_23 {S : XSc} {d : Nat} {h : XH} {Q : XO → XH → Prop} {b np no : Nat} {nn : Int32} {sc : Nat} {ho : Int32} {TS TH tr : Nat → Int32} {pl : Nat → XPl} {q : Nat → XQu} {s : Nat → Nat} {R : Nat → Nat → Nat} (hB : BdP h.1 b np no nn sc ho TS TH tr pl q s R) (h32 : 32 ≤ b) {t : Int32} (hs : sc < 100000) (k : ∀ f, BdP f b np no nn (sc + 1) ho TS TH (fun j => if j = 0 then t else tr (j - 1)) pl q s R → Fr h.1 f b (b + 69) → Q (.inl none) (f, h.2)) : xP S d 23 0 [(0, .ref b), (1, .int t)] [] h Q := by
  obtain ⟨b1, ⟨b2n, b2o, b2s⟩, b3, b4, b5, b6, b7, b8, b9, b10⟩ := id hB
  refine xs_f 1 r_23_0 rfl ?_
  refine xs_f 2 (lv2 := [(2, _), (0, _), (1, _)]) r_23_1 rfl ?_
  exact xP_lv [(0, .ref b), (1, .int t), (2, .int (nI 4))] rfl ⟨rfl, rfl, rfl, trivial⟩ (l_23 hB h32 hs k 5 4 h.1 (by omega) (by omega) (b6.ex (fun j hj => by (try dsimp only); rw [if_pos (by omega)])) Fr.rf)

/-- an estimate is settled: players, house, the board's bins -/
abbrev XZ : Type := (Nat → XPl) × (Int32 × ((Nat → Int32) × (Nat → Int32)))
def hitB (e : XEst) (t : Int32) : Bool := decide (e.2.1 ≤ t ∧ t ≤ e.2.2.1)
def payP (e : XEst) (wt t : Int32) (p : XPl) : XPl := (bif hitB e t then p.1 + (e.2.2.2.2 + xprize e) else p.1, (p.2.1 + wt * xpts e t, (p.2.2.1, (xw p.2.2.2.1 e.2.2.2.1.toNatClampNeg (p.2.2.2.1 e.2.2.2.1.toNatClampNeg + 1), bif hitB e t then xw p.2.2.2.2 e.2.2.2.1.toNatClampNeg (p.2.2.2.2 e.2.2.2.1.toNatClampNeg + 1) else p.2.2.2.2))))
def pay1 (e : XEst) (wt t : Int32) (z : XZ) : XZ := (xw z.1 e.1.toNatClampNeg (payP e wt t (z.1 e.1.toNatClampNeg)), (bif hitB e t then z.2.1 - xprize e else z.2.1 + e.2.2.2.2, (xw z.2.2.1 e.2.2.2.1.toNatClampNeg (z.2.2.1 e.2.2.2.1.toNatClampNeg + 1), bif hitB e t then xw z.2.2.2 e.2.2.2.1.toNatClampNeg (z.2.2.2 e.2.2.2.1.toNatClampNeg + 1) else z.2.2.2)))
def payN (E : Nat → XEst) (wt t : Int32) : Nat → XZ → XZ
  | 0, z => z
  | n + 1, z => pay1 (E n) wt t (payN E wt t n z)
def hitN (E : Nat → XEst) (t : Int32) : Nat → Nat
  | 0 => 0
  | n + 1 => bif hitB (E n) t then hitN E t n + 1 else hitN E t n
theorem hitN_s {E : Nat → XEst} {t : Int32} {n : Nat} : hitN E t (n + 1) = bif hitB (E n) t then hitN E t n + 1 else hitN E t n := rfl
theorem hitN_le (E : Nat → XEst) (t : Int32) : ∀ n, hitN E t n ≤ n
  | 0 => Nat.le_refl _
  | n + 1 => by
    have := hitN_le E t n
    unfold hitN
    cases hitB (E n) t
    · exact Nat.le_succ_of_le this
    · exact Nat.succ_le_succ this
def okE (np : Nat) (e : XEst) : Prop := (∃ i, i < np ∧ e.1 = nI i) ∧ xconf e.2.2.2.1
theorem l_22b {S : XSc} {d : Nat} {h : XH} {Q : XO → XH → Prop} {b np no : Nat} {nn : Int32} {sc : Nat} {ho : Int32} {TS TH tr : Nat → Int32} {pl : Nat → XPl} {q : Nat → XQu} {s : Nat → Nat} {R : Nat → Nat → Nat} (hB : BdP h.1 b np no nn sc ho TS TH tr pl q s R) (h32 : 32 ≤ b) {ea : Nat} {e : XEst} (hE : h.1 ea = some (.inr (4, eL e))) (hea : b + 27 ≤ ea) (heb : ea < b + 69) {i j : Nat} (hi5 : i < 5) (he : e.1 = nI i) (hj1 : 1 ≤ j) (hj9 : j ≤ 9) (hj : e.2.2.2.1 = nI j) {w : Bool} {wt t : Int32} (k : ∀ f, BdP f b np no nn sc ho (xw TS j (TS j + 1)) (bif w then xw TH j (TH j + 1) else TH) tr (xw pl i ((pl i).1, ((pl i).2.1 + wt * xpts e t, ((pl i).2.2.1, (xw (pl i).2.2.2.1 j ((pl i).2.2.2.1 j + 1), bif w then xw (pl i).2.2.2.2 j ((pl i).2.2.2.2 j + 1) else (pl i).2.2.2.2))))) q s R → Fr h.1 f b (b + 69) → Q (.inl (some (.int (bI w)))) (f, h.2)) : xP S (d + 2) 22 84 [(5, .int (bI w)), (4, .ref (b + 7 + 4 * i)), (0, .ref b), (1, .ref ea), (2, .int wt), (3, .int t)] [] h Q := by
  obtain ⟨b1, ⟨b2n, b2o, b2s⟩, b3, b4, b5, b6, b7, b8, b9, b10⟩ := id hB
  have hc : xconf e.2.2.2.1 := by rw [hj]; exact xconf_j hj1 hj9
  have p1 := (b7 i hi5).1
  have p2 := (b7 i hi5).2
  refine xs_f 86 r_22_84 rfl ?_
  refine xs_f 87 r_22_86 rfl ?_
  refine xs_get 90 r_22_87 rfl rfl (by first | assumption | exact xup_s | exact (b7 _ (by omega)).1 | exact (b10 _ (by omega)).1 | (refine (xup_n (by omega)).trans ?_; first | assumption | exact xup_s | exact (b7 _ (by omega)).1 | exact (b10 _ (by omega)).1) | (refine (xup_n (by omega)).trans ((xup_n (by omega)).trans ?_); first | assumption | exact xup_s | exact (b7 _ (by omega)).1 | exact (b10 _ (by omega)).1) | (refine (xup_n (by omega)).trans ((xup_n (by omega)).trans ((xup_n (by omega)).trans ?_)); first | assumption | exact xup_s | exact (b7 _ (by omega)).1 | exact (b10 _ (by omega)).1)) (by rfl) ?_
  refine xs_f 91 r_22_90 rfl ?_
  refine xs_f 92 r_22_91 rfl ?_
  refine xs_f 93 r_22_92 rfl ?_
  refine xs_call (lv2 := [(0, _), (1, _)]) r_22_93 rfl rfl (by decide) (xcan_0 rfl rfl (by first | assumption | exact xup_s | exact (b7 _ (by omega)).1 | exact (b10 _ (by omega)).1 | (refine (xup_n (by omega)).trans ?_; first | assumption | exact xup_s | exact (b7 _ (by omega)).1 | exact (b10 _ (by omega)).1) | (refine (xup_n (by omega)).trans ((xup_n (by omega)).trans ?_); first | assumption | exact xup_s | exact (b7 _ (by omega)).1 | exact (b10 _ (by omega)).1) | (refine (xup_n (by omega)).trans ((xup_n (by omega)).trans ((xup_n (by omega)).trans ?_)); first | assumption | exact xup_s | exact (b7 _ (by omega)).1 | exact (b10 _ (by omega)).1)) (by rfl)) rfl (c_62 hE hc ?_)
  refine xK_v rfl ?_
  refine xs_f 97 r_22_96 rfl ?_
  refine xs_f 98 r_22_97 rfl ?_
  refine xs_putC 101 r_22_98 rfl (by first | assumption | exact xup_s | exact (b7 _ (by omega)).1 | exact (b10 _ (by omega)).1 | (refine (xup_n (by omega)).trans ?_; first | assumption | exact xup_s | exact (b7 _ (by omega)).1 | exact (b10 _ (by omega)).1) | (refine (xup_n (by omega)).trans ((xup_n (by omega)).trans ?_); first | assumption | exact xup_s | exact (b7 _ (by omega)).1 | exact (b10 _ (by omega)).1) | (refine (xup_n (by omega)).trans ((xup_n (by omega)).trans ((xup_n (by omega)).trans ?_)); first | assumption | exact xup_s | exact (b7 _ (by omega)).1 | exact (b10 _ (by omega)).1)) (by rfl) (by rfl) (fun f1 x1 y1 => ?_)
  refine xs_f 103 r_22_101 rfl ?_
  refine xs_get 106 r_22_103 rfl rfl x1 (by rfl) ?_
  refine xs_f 107 r_22_106 rfl ?_
  refine xs_get 110 r_22_107 rfl rfl ((y1 ea (by omega)).trans hE) (show _ = some (Value.int (nI j)) from congrArg (fun z => some (Value.int z)) hj) ?_
  refine xs_f 112 r_22_110 rfl ?_
  refine xs_call (lv2 := [(0, _), (1, _), (2, _)]) r_22_112 rfl rfl (by decide) (xcan_0 rfl rfl ((y1 _ (by omega)).trans p2.1) (by rfl)) rfl (c_3 (p2.fr (fun c z1 z2 => y1 c (by omega))) (by omega) hj1 hj9 (fun f2 x2 y2 => ?_))
  refine xK_0 rfl ?_
  have hB2 := hB.ply hi5 (p := ((pl i).1, ((pl i).2.1 + wt * xpts e t, ((pl i).2.2.1, (xw (pl i).2.2.2.1 j ((pl i).2.2.2.1 j + 1), bif w then xw (pl i).2.2.2.2 j ((pl i).2.2.2.2 j + 1) else (pl i).2.2.2.2))))) ⟨(y2 _ (by omega)).trans x1, x2⟩ ((y1.wd (by omega) (by omega)).tr (y2.wd (by omega) (by omega)))
  obtain ⟨e1, -, -, -, e5, -⟩ := id hB2
  refine xs_f 116 r_22_115 rfl ?_
  refine xs_get 119 r_22_116 rfl rfl e1 (by rfl) ?_
  refine xs_f 120 r_22_119 rfl ?_
  refine xs_get 123 r_22_120 rfl rfl ((y2 ea (by omega)).trans ((y1 ea (by omega)).trans hE)) (show _ = some (Value.int (nI j)) from congrArg (fun z => some (Value.int z)) hj) ?_
  refine xs_f 125 r_22_123 rfl ?_
  refine xs_call (lv2 := [(0, _), (1, _), (2, _)]) r_22_125 rfl rfl (by decide) (xcan_0 rfl rfl e5.1 (by rfl)) rfl (c_3 e5 (by omega) hj1 hj9 (fun f3 x3 y3 => ?_))
  refine xK_0 rfl ?_
  refine xs_f 130 r_22_128 rfl ?_
  refine xs_ret r_22_130 (bI_ret w) ?_
  exact k f3 (hB2.bns x3 y3) (((y1.wd (by omega) (by omega)).tr (y2.wd (by omega) (by omega))).tr (y3.wd (by omega) (by omega)))

theorem c_22 {S : XSc} {d : Nat} {h : XH} {Q : XO → XH → Prop} {b np no : Nat} {nn : Int32} {sc : Nat} {ho : Int32} {TS TH tr : Nat → Int32} {pl : Nat → XPl} {q : Nat → XQu} {s : Nat → Nat} {R : Nat → Nat → Nat} (hB : BdP h.1 b np no nn sc ho TS TH tr pl q s R) (h32 : 32 ≤ b) {ea : Nat} {e : XEst} (hE : h.1 ea = some (.inr (4, eL e))) (hea : b + 27 ≤ ea) (heb : ea < b + 69) {i j : Nat} (hin : i < np) (he : e.1 = nI i) (hj1 : 1 ≤ j) (hj9 : j ≤ 9) (hj : e.2.2.2.1 = nI j) {wt t : Int32} (k : ∀ f, BdP f b np no nn sc (pay1 e wt t (pl, (ho, (TS, TH)))).2.1 (pay1 e wt t (pl, (ho, (TS, TH)))).2.2.1 (pay1 e wt t (pl, (ho, (TS, TH)))).2.2.2 tr (pay1 e wt t (pl, (ho, (TS, TH)))).1 q s R → Fr h.1 f b (b + 69) → Q (.inl (some (.int (bI (hitB e t))))) (f, h.2)) : xP S (d + 2) 22 0 [(0, .ref b), (1, .ref ea), (2, .int wt), (3, .int t)] [] h Q := by
  obtain ⟨b1, ⟨b2n, b2o, b2s⟩, b3, b4, b5, b6, b7, b8, b9, b10⟩ := id hB
  have hi5 : i < 5 := by omega
  have hc : xconf e.2.2.2.1 := by rw [hj]; exact xconf_j hj1 hj9
  have p1 := (b7 i hi5).1
  have p2 := (b7 i hi5).2
  have hci : e.1.toNatClampNeg = i := by rw [he]; exact nI_clamp (by omega)
  have hcj : e.2.2.2.1.toNatClampNeg = j := by rw [hj]; exact nI_clamp (by omega)
  unfold pay1 payP at k
  rw [hci, hcj] at k
  refine xs_f 1 r_22_0 rfl ?_
  refine xs_f 2 r_22_1 rfl ?_
  refine xs_get 5 r_22_2 rfl rfl (by first | assumption | exact xup_s | exact (b7 _ (by omega)).1 | exact (b10 _ (by omega)).1 | (refine (xup_n (by omega)).trans ?_; first | assumption | exact xup_s | exact (b7 _ (by omega)).1 | exact (b10 _ (by omega)).1) | (refine (xup_n (by omega)).trans ((xup_n (by omega)).trans ?_); first | assumption | exact xup_s | exact (b7 _ (by omega)).1 | exact (b10 _ (by omega)).1) | (refine (xup_n (by omega)).trans ((xup_n (by omega)).trans ((xup_n (by omega)).trans ?_)); first | assumption | exact xup_s | exact (b7 _ (by omega)).1 | exact (b10 _ (by omega)).1)) (by rfl) ?_
  refine xs_call (lv2 := [(0, _), (1, _)]) r_22_5 rfl rfl (by decide) (xcan_0 rfl rfl (by first | assumption | exact xup_s | exact (b7 _ (by omega)).1 | exact (b10 _ (by omega)).1 | (refine (xup_n (by omega)).trans ?_; first | assumption | exact xup_s | exact (b7 _ (by omega)).1 | exact (b10 _ (by omega)).1) | (refine (xup_n (by omega)).trans ((xup_n (by omega)).trans ?_); first | assumption | exact xup_s | exact (b7 _ (by omega)).1 | exact (b10 _ (by omega)).1) | (refine (xup_n (by omega)).trans ((xup_n (by omega)).trans ((xup_n (by omega)).trans ?_)); first | assumption | exact xup_s | exact (b7 _ (by omega)).1 | exact (b10 _ (by omega)).1)) (by rfl)) rfl (c_12 hB h32 (fun hp => ?_) (fun hp => ?_))
  · refine xK_v rfl ?_
    refine xs_f 13 r_22_8 rfl ?_
    refine xs_f 14 r_22_13 rfl ?_
    refine xs_get 17 r_22_14 rfl rfl (by first | assumption | exact xup_s | exact (b7 _ (by omega)).1 | exact (b10 _ (by omega)).1 | (refine (xup_n (by omega)).trans ?_; first | assumption | exact xup_s | exact (b7 _ (by omega)).1 | exact (b10 _ (by omega)).1) | (refine (xup_n (by omega)).trans ((xup_n (by omega)).trans ?_); first | assumption | exact xup_s | exact (b7 _ (by omega)).1 | exact (b10 _ (by omega)).1) | (refine (xup_n (by omega)).trans ((xup_n (by omega)).trans ((xup_n (by omega)).trans ?_)); first | assumption | exact xup_s | exact (b7 _ (by omega)).1 | exact (b10 _ (by omega)).1)) (by rfl) ?_
    refine xs_f 18 r_22_17 rfl ?_
    refine xs_get 21 r_22_18 rfl rfl (by first | assumption | exact xup_s | exact (b7 _ (by omega)).1 | exact (b10 _ (by omega)).1 | (refine (xup_n (by omega)).trans ?_; first | assumption | exact xup_s | exact (b7 _ (by omega)).1 | exact (b10 _ (by omega)).1) | (refine (xup_n (by omega)).trans ((xup_n (by omega)).trans ?_); first | assumption | exact xup_s | exact (b7 _ (by omega)).1 | exact (b10 _ (by omega)).1) | (refine (xup_n (by omega)).trans ((xup_n (by omega)).trans ((xup_n (by omega)).trans ?_)); first | assumption | exact xup_s | exact (b7 _ (by omega)).1 | exact (b10 _ (by omega)).1)) (by rfl) ?_
    refine xs_aldR 22 r_22_21 (fun _ _ => rfl) rfl rfl rfl (j := i) he (by first | assumption | (refine RA.fr ?_ (xup_n (by omega)); first | assumption) | (refine RA.fr (RA.fr ?_ (xup_n (by omega))) (xup_n (by omega)); first | assumption) | (refine RA.fr (RA.fr (RA.fr ?_ (xup_n (by omega))) (xup_n (by omega))) (xup_n (by omega)); first | assumption)) (by omega) ?_
    refine xs_f 24 (lv2 := [(4, _), (0, _), (1, _), (2, _), (3, _)]) r_22_22 rfl ?_
    refine xs_f 25 r_22_24 rfl ?_
    refine xs_f 26 r_22_25 rfl ?_
    refine xs_call (lv2 := [(0, _), (1, _)]) r_22_26 rfl rfl (by decide) (xcan_0 rfl rfl (by first | assumption | exact xup_s | exact (b7 _ (by omega)).1 | exact (b10 _ (by omega)).1 | (refine (xup_n (by omega)).trans ?_; first | assumption | exact xup_s | exact (b7 _ (by omega)).1 | exact (b10 _ (by omega)).1) | (refine (xup_n (by omega)).trans ((xup_n (by omega)).trans ?_); first | assumption | exact xup_s | exact (b7 _ (by omega)).1 | exact (b10 _ (by omega)).1) | (refine (xup_n (by omega)).trans ((xup_n (by omega)).trans ((xup_n (by omega)).trans ?_)); first | assumption | exact xup_s | exact (b7 _ (by omega)).1 | exact (b10 _ (by omega)).1)) (by rfl)) rfl (c_60 hE (fun hh => ?_) (fun hh => ?_))
    · rw [show hitB e t = true from decide_eq_true hh] at k
      refine xK_v rfl ?_
      refine xs_f 31 (lv2 := [(5, _), (4, _), (0, _), (1, _), (2, _), (3, _)]) r_22_29 rfl ?_
      refine xs_f 33 r_22_31 rfl ?_
      refine xs_f 36 r_22_33 rfl ?_
      refine xs_f 38 r_22_36 rfl ?_
      refine xs_f 39 r_22_38 rfl ?_
      refine xs_get 42 r_22_39 rfl rfl (by first | assumption | exact xup_s | exact (b7 _ (by omega)).1 | exact (b10 _ (by omega)).1 | (refine (xup_n (by omega)).trans ?_; first | assumption | exact xup_s | exact (b7 _ (by omega)).1 | exact (b10 _ (by omega)).1) | (refine (xup_n (by omega)).trans ((xup_n (by omega)).trans ?_); first | assumption | exact xup_s | exact (b7 _ (by omega)).1 | exact (b10 _ (by omega)).1) | (refine (xup_n (by omega)).trans ((xup_n (by omega)).trans ((xup_n (by omega)).trans ?_)); first | assumption | exact xup_s | exact (b7 _ (by omega)).1 | exact (b10 _ (by omega)).1)) (by rfl) ?_
      refine xs_f 43 r_22_42 rfl ?_
      refine xs_get 46 r_22_43 rfl rfl (by first | assumption | exact xup_s | exact (b7 _ (by omega)).1 | exact (b10 _ (by omega)).1 | (refine (xup_n (by omega)).trans ?_; first | assumption | exact xup_s | exact (b7 _ (by omega)).1 | exact (b10 _ (by omega)).1) | (refine (xup_n (by omega)).trans ((xup_n (by omega)).trans ?_); first | assumption | exact xup_s | exact (b7 _ (by omega)).1 | exact (b10 _ (by omega)).1) | (refine (xup_n (by omega)).trans ((xup_n (by omega)).trans ((xup_n (by omega)).trans ?_)); first | assumption | exact xup_s | exact (b7 _ (by omega)).1 | exact (b10 _ (by omega)).1)) (by rfl) ?_
      refine xs_f 47 r_22_46 rfl ?_
      refine xs_call (lv2 := [(0, _)]) r_22_47 rfl rfl (by decide) (xcan_0 rfl rfl (by first | assumption | exact xup_s | exact (b7 _ (by omega)).1 | exact (b10 _ (by omega)).1 | (refine (xup_n (by omega)).trans ?_; first | assumption | exact xup_s | exact (b7 _ (by omega)).1 | exact (b10 _ (by omega)).1) | (refine (xup_n (by omega)).trans ((xup_n (by omega)).trans ?_); first | assumption | exact xup_s | exact (b7 _ (by omega)).1 | exact (b10 _ (by omega)).1) | (refine (xup_n (by omega)).trans ((xup_n (by omega)).trans ((xup_n (by omega)).trans ?_)); first | assumption | exact xup_s | exact (b7 _ (by omega)).1 | exact (b10 _ (by omega)).1)) (by rfl)) rfl (c_61 hE hc ?_)
      refine xK_v rfl ?_
      refine xs_f 51 r_22_50 rfl ?_
      refine xs_f 52 r_22_51 rfl ?_
      refine xs_putC 55 r_22_52 rfl (by first | assumption | exact xup_s | exact (b7 _ (by omega)).1 | exact (b10 _ (by omega)).1 | (refine (xup_n (by omega)).trans ?_; first | assumption | exact xup_s | exact (b7 _ (by omega)).1 | exact (b10 _ (by omega)).1) | (refine (xup_n (by omega)).trans ((xup_n (by omega)).trans ?_); first | assumption | exact xup_s | exact (b7 _ (by omega)).1 | exact (b10 _ (by omega)).1) | (refine (xup_n (by omega)).trans ((xup_n (by omega)).trans ((xup_n (by omega)).trans ?_)); first | assumption | exact xup_s | exact (b7 _ (by omega)).1 | exact (b10 _ (by omega)).1)) (by rfl) (by rfl) (fun f1 x1 y1 => ?_)
      refine xs_f 56 r_22_55 rfl ?_
      refine xs_f 57 r_22_56 rfl ?_
      refine xs_get 60 r_22_57 rfl rfl ((y1 b (by omega)).trans b1) (by rfl) ?_
      refine xs_f 61 r_22_60 rfl ?_
      refine xs_call (lv2 := [(0, _)]) r_22_61 rfl rfl (by decide) (xcan_0 rfl rfl ((y1 ea (by omega)).trans hE) (by rfl)) rfl (c_61 ((y1 ea (by omega)).trans hE) hc ?_)
      refine xK_v rfl ?_
      refine xs_f 65 r_22_64 rfl ?_
      refine xs_putC 68 r_22_65 rfl ((y1 b (by omega)).trans b1) (by rfl) (by rfl) (fun f2 x2 y2 => ?_)
      refine xs_f 84 r_22_68 rfl ?_
      first
        | (have hB1 := hB.ply hi5 (p := ((pl i).1 + (e.2.2.2.2 + xprize e), (pl i).2)) ⟨x1, p2.fr (fun c z1 z2 => y1 c (by omega))⟩ (y1.wd (by omega) (by omega))
           have hB2 := hB1.obj x2 y2 b2n b2o b2s
           refine l_22b (h := (f2, h.2)) (w := true) hB2 h32 ((y2 ea (by omega)).trans ((y1 ea (by omega)).trans hE)) hea heb hi5 he hj1 hj9 hj (fun f9 x9 y9 => ?_)
           rw [xw_s, xw_xw] at x9
           exact k f9 x9 (((y1.wd (by omega) (by omega)).tr (y2.wd (by omega) (by omega))).tr y9))
        | (have hB2 := hB.obj x3 y3 b2n b2o b2s
           exact l_22b (h := (f3, h.2)) (w := false) hB2 h32 ((y3 ea (by omega)).trans hE) hea heb hi5 he hj1 hj9 hj (fun f9 x9 y9 => k f9 x9 ((y3.wd (by omega) (by omega)).tr y9)))
    · rw [show hitB e t = false from decide_eq_false hh] at k
      refine xK_v rfl ?_
      refine xs_f 31 (lv2 := [(5, _), (4, _), (0, _), (1, _), (2, _), (3, _)]) r_22_29 rfl ?_
      refine xs_f 33 r_22_31 rfl ?_
      refine xs_f 71 r_22_33 rfl ?_
      refine xs_f 72 r_22_71 rfl ?_
      refine xs_f 73 r_22_72 rfl ?_
      refine xs_get 76 r_22_73 rfl rfl (by first | assumption | exact xup_s | exact (b7 _ (by omega)).1 | exact (b10 _ (by omega)).1 | (refine (xup_n (by omega)).trans ?_; first | assumption | exact xup_s | exact (b7 _ (by omega)).1 | exact (b10 _ (by omega)).1) | (refine (xup_n (by omega)).trans ((xup_n (by omega)).trans ?_); first | assumption | exact xup_s | exact (b7 _ (by omega)).1 | exact (b10 _ (by omega)).1) | (refine (xup_n (by omega)).trans ((xup_n (by omega)).trans ((xup_n (by omega)).trans ?_)); first | assumption | exact xup_s | exact (b7 _ (by omega)).1 | exact (b10 _ (by omega)).1)) (by rfl) ?_
      refine xs_f 77 r_22_76 rfl ?_
      refine xs_get 80 r_22_77 rfl rfl (by first | assumption | exact xup_s | exact (b7 _ (by omega)).1 | exact (b10 _ (by omega)).1 | (refine (xup_n (by omega)).trans ?_; first | assumption | exact xup_s | exact (b7 _ (by omega)).1 | exact (b10 _ (by omega)).1) | (refine (xup_n (by omega)).trans ((xup_n (by omega)).trans ?_); first | assumption | exact xup_s | exact (b7 _ (by omega)).1 | exact (b10 _ (by omega)).1) | (refine (xup_n (by omega)).trans ((xup_n (by omega)).trans ((xup_n (by omega)).trans ?_)); first | assumption | exact xup_s | exact (b7 _ (by omega)).1 | exact (b10 _ (by omega)).1)) (by rfl) ?_
      refine xs_f 81 r_22_80 rfl ?_
      refine xs_putC 84 r_22_81 rfl (by first | assumption | exact xup_s | exact (b7 _ (by omega)).1 | exact (b10 _ (by omega)).1 | (refine (xup_n (by omega)).trans ?_; first | assumption | exact xup_s | exact (b7 _ (by omega)).1 | exact (b10 _ (by omega)).1) | (refine (xup_n (by omega)).trans ((xup_n (by omega)).trans ?_); first | assumption | exact xup_s | exact (b7 _ (by omega)).1 | exact (b10 _ (by omega)).1) | (refine (xup_n (by omega)).trans ((xup_n (by omega)).trans ((xup_n (by omega)).trans ?_)); first | assumption | exact xup_s | exact (b7 _ (by omega)).1 | exact (b10 _ (by omega)).1)) (by rfl) (by rfl) (fun f3 x3 y3 => ?_)
      first
        | (have hB1 := hB.ply hi5 (p := ((pl i).1 + (e.2.2.2.2 + xprize e), (pl i).2)) ⟨x1, p2.fr (fun c z1 z2 => y1 c (by omega))⟩ (y1.wd (by omega) (by omega))
           have hB2 := hB1.obj x2 y2 b2n b2o b2s
           refine l_22b (h := (f2, h.2)) (w := true) hB2 h32 ((y2 ea (by omega)).trans ((y1 ea (by omega)).trans hE)) hea heb hi5 he hj1 hj9 hj (fun f9 x9 y9 => ?_)
           rw [xw_s, xw_xw] at x9
           exact k f9 x9 (((y1.wd (by omega) (by omega)).tr (y2.wd (by omega) (by omega))).tr y9))
        | (have hB2 := hB.obj x3 y3 b2n b2o b2s
           exact l_22b (h := (f3, h.2)) (w := false) hB2 h32 ((y3 ea (by omega)).trans hE) hea heb hi5 he hj1 hj9 hj (fun f9 x9 y9 => k f9 x9 ((y3.wd (by omega) (by omega)).tr y9)))
  · exact absurd (show isPl np e.1 from by rw [he]; exact isPl_j hin b2n) hp

theorem l_21 {S : XSc} {d : Nat} {h : XH} {Q : XO → XH → Prop} {b np no : Nat} {nn : Int32} {sc : Nat} {ho : Int32} {TS TH tr : Nat → Int32} {pl : Nat → XPl} {q : Nat → XQu} {s : Nat → Nat} {R : Nat → Nat → Nat} (hB : BdP h.1 b np no nn sc ho TS TH tr pl q s R) (h32 : 32 ≤ b) {t : Int32} (h0 : 0 < no) (hs : sc < 100000) (hok : ∀ r, r < (q 0).2.2.1 → okE np ((q 0).2.2.2 r)) (k : ∀ f R s, BdP f b np (no - 1) nn (sc + 1) (payN (q 0).2.2.2 (q 0).2.1 t (q 0).2.2.1 (pl, (ho, (TS, TH)))).2.1 (payN (q 0).2.2.2 (q 0).2.1 t (q 0).2.2.1 (pl, (ho, (TS, TH)))).2.2.1 (payN (q 0).2.2.2 (q 0).2.1 t (q 0).2.2.1 (pl, (ho, (TS, TH)))).2.2.2 (fun j => if j = 0 then t else tr (j - 1)) (payN (q 0).2.2.2 (q 0).2.1 t (q 0).2.2.1 (pl, (ho, (TS, TH)))).1 (rot q 0 (no - 1)) s R → Fr h.1 f b (b + 69) → Q (.inl (some (.int (nI (hitN (q 0).2.2.2 t (q 0).2.2.1))))) (f, h.2)) : ∀ (m : Nat) (i : Nat) (f : Nat → Option XE), (q 0).2.2.1 - i < m → (i ≤ (q 0).2.2.1) → (BdP f b np no nn sc (payN (q 0).2.2.2 (q 0).2.1 t i (pl, (ho, (TS, TH)))).2.1 (payN (q 0).2.2.2 (q 0).2.1 t i (pl, (ho, (TS, TH)))).2.2.1 (payN (q 0).2.2.2 (q 0).2.1 t i (pl, (ho, (TS, TH)))).2.2.2 tr (payN (q 0).2.2.2 (q 0).2.1 t i (pl, (ho, (TS, TH)))).1 q s R) → (Fr h.1 f b (b + 69)) → xP S (d + 3) 21 12 [(0, .ref b), (1, .int t), (2, .ref (b + 27 + 7 * s 0)), (3, .int (nI (hitN (q 0).2.2.2 t i))), (4, .int (nI i))] [] (f, h.2) Q := by
  intro m
  induction m with
  | zero => intro i f hm; exact absurd hm (Nat.not_lt_zero _)
  | succ m ih =>
    intro i f hm hi hB1 hF
    obtain ⟨b1, ⟨b2n, b2o, b2s⟩, b3, b4, b5, b6, b7, b8, b9, b10⟩ := id hB1
    have z8 := b8 0 (by omega)
    obtain ⟨u1, u2, u3, u5, u6, u7⟩ := b10 0 (by omega)
    have hhl := hitN_le (q 0).2.2.2 t i
    refine xs_f 14 r_21_12 rfl ?_
    refine xs_f 15 r_21_14 rfl ?_
    refine xs_get 18 r_21_15 rfl rfl (by first | assumption | exact xup_s | exact u1 | (refine (xup_n (by omega)).trans ?_; first | assumption | exact xup_s | exact u1) | (refine (xup_n (by omega)).trans ((xup_n (by omega)).trans ?_); first | assumption | exact xup_s | exact u1) | (refine (xup_n (by omega)).trans ((xup_n (by omega)).trans ((xup_n (by omega)).trans ?_)); first | assumption | exact xup_s | exact u1)) (by rfl) ?_
    refine xs_if 49 21 r_21_18 rfl (fun hc1 => ?_) (fun hc1 => ?_)
    · have hc1 := (nI_leN rfl rfl (by omega) (by omega)).mp hc1
      have e : i = (q 0).2.2.1 := by omega
      subst e
      refine xs_f 50 r_21_49 rfl ?_
      refine xs_call (lv2 := [(0, _)]) r_21_50 rfl rfl (by decide) (xcan_0 rfl rfl (by first | assumption | exact xup_s | exact u1 | (refine (xup_n (by omega)).trans ?_; first | assumption | exact xup_s | exact u1) | (refine (xup_n (by omega)).trans ((xup_n (by omega)).trans ?_); first | assumption | exact xup_s | exact u1) | (refine (xup_n (by omega)).trans ((xup_n (by omega)).trans ((xup_n (by omega)).trans ?_)); first | assumption | exact xup_s | exact u1)) (by rfl)) rfl (c_24 (h := (f, h.2)) hB1 h32 h0 (fun f3 x3 y3 => ?_))
      refine xK_0 rfl ?_
      obtain ⟨e1, -⟩ := id x3
      refine xs_f 54 r_21_53 rfl ?_
      refine xs_f 55 r_21_54 rfl ?_
      refine xs_get 58 r_21_55 rfl rfl e1 (by rfl) ?_
      refine xs_f 59 r_21_58 rfl ?_
      refine xs_f 60 r_21_59 rfl ?_
      refine xs_putC 63 r_21_60 rfl (by first | assumption | exact xup_s | exact u1 | (refine (xup_n (by omega)).trans ?_; first | assumption | exact xup_s | exact u1) | (refine (xup_n (by omega)).trans ((xup_n (by omega)).trans ?_); first | assumption | exact xup_s | exact u1) | (refine (xup_n (by omega)).trans ((xup_n (by omega)).trans ((xup_n (by omega)).trans ?_)); first | assumption | exact xup_s | exact u1)) (by rfl) (by rfl) (fun f4 x4 y4 => ?_)
      have hB4 := x3.obj (no' := no - 1) (x4.trans (by rw [← nI_subE (x := nI no) (a := no) (b := 1) rfl rfl (by omega)]; rfl)) y4 b2n (by omega) b2s
      refine xs_f 64 r_21_63 rfl ?_
      refine xs_f 65 r_21_64 rfl ?_
      refine xs_call (lv2 := [(0, _), (1, _)]) r_21_65 rfl rfl (by decide) (xcan_0 rfl rfl x4 (by rfl)) rfl (c_23 (h := (f4, h.2)) hB4 h32 hs (fun f5 x5 y5 => ?_))
      refine xK_0 rfl ?_
      refine xs_f 69 r_21_68 rfl ?_
      refine xs_ret r_21_69 rfl ?_
      exact k f5 _ _ x5 (((hF.tr y3).tr (y4.wd (by omega) (by omega))).tr y5)
    · have hc1 := mt (nI_leN rfl rfl (by omega) (by omega)).mpr hc1
      obtain ⟨⟨gi, gi5, gie⟩, gc⟩ := hok i (by omega)
      obtain ⟨gj, gj1, gj9, gje⟩ := xconf_nI gc
      refine xs_f 22 r_21_21 rfl ?_
      refine xs_f 23 r_21_22 rfl ?_
      refine xs_get 26 r_21_23 rfl rfl (by first | assumption | exact xup_s | exact u1 | (refine (xup_n (by omega)).trans ?_; first | assumption | exact xup_s | exact u1) | (refine (xup_n (by omega)).trans ((xup_n (by omega)).trans ?_); first | assumption | exact xup_s | exact u1) | (refine (xup_n (by omega)).trans ((xup_n (by omega)).trans ((xup_n (by omega)).trans ?_)); first | assumption | exact xup_s | exact u1)) (by rfl) ?_
      refine xs_f 28 r_21_26 rfl ?_
      refine xs_aldR 29 r_21_28 (fun _ _ => rfl) rfl rfl rfl (j := i) rfl (by first | assumption | exact u3 | (refine RA.fr ?_ (xup_n (by omega)); first | assumption | exact u3) | (refine RA.fr (RA.fr ?_ (xup_n (by omega))) (xup_n (by omega)); first | assumption | exact u3) | (refine RA.fr (RA.fr (RA.fr ?_ (xup_n (by omega))) (xup_n (by omega))) (xup_n (by omega)); first | assumption | exact u3)) (by omega) ?_
      refine xs_f 30 r_21_29 rfl ?_
      refine xs_get 33 r_21_30 rfl rfl (by first | assumption | exact xup_s | exact u1 | (refine (xup_n (by omega)).trans ?_; first | assumption | exact xup_s | exact u1) | (refine (xup_n (by omega)).trans ((xup_n (by omega)).trans ?_); first | assumption | exact xup_s | exact u1) | (refine (xup_n (by omega)).trans ((xup_n (by omega)).trans ((xup_n (by omega)).trans ?_)); first | assumption | exact xup_s | exact u1)) (by rfl) ?_
      refine xs_f 34 r_21_33 rfl ?_
      refine xs_call (lv2 := [(0, _), (1, _), (2, _), (3, _)]) r_21_34 rfl rfl (by decide) (xcan_0 rfl rfl (by first | assumption | exact xup_s | exact u1 | (refine (xup_n (by omega)).trans ?_; first | assumption | exact xup_s | exact u1) | (refine (xup_n (by omega)).trans ((xup_n (by omega)).trans ?_); first | assumption | exact xup_s | exact u1) | (refine (xup_n (by omega)).trans ((xup_n (by omega)).trans ((xup_n (by omega)).trans ?_)); first | assumption | exact xup_s | exact u1)) (by rfl)) rfl (c_22 (h := (f, h.2)) hB1 h32 (u7 i (by omega)) (by omega) (by have := u5 i (by omega); omega) gi5 gie gj1 gj9 gje (fun f2 x2 y2 => ?_))
      refine xK_v rfl ?_
      refine xs_if 43 40 r_21_37 rfl (fun hw => ?_) (fun hw => ?_)
      · have e : hitB ((q 0).2.2.2 i) t = false := (bI_0 _).mp hw
        refine xs_f 46 r_21_43 rfl ?_
        refine xs_f 12 r_21_46 rfl ?_
        exact xP_lv [(0, .ref b), (1, .int t), (2, .ref (b + 27 + 7 * s 0)), (3, .int (nI (hitN (q 0).2.2.2 t (i + 1)))), (4, .int (nI (i + 1)))] rfl ⟨rfl, rfl, rfl, (by rw [show hitN (q 0).2.2.2 t (i + 1) = hitN (q 0).2.2.2 t i from by rw [hitN_s, e]; rfl]; rfl), (by rw [nI_succ]; rfl), trivial⟩ (ih (i + 1) f2 (by omega) (by omega) x2 (hF.tr y2))
      · have e : hitB ((q 0).2.2.2 i) t = true := bI_n0 hw
        refine xs_f 43 r_21_40 rfl ?_
        refine xs_f 46 r_21_43 rfl ?_
        refine xs_f 12 r_21_46 rfl ?_
        exact xP_lv [(0, .ref b), (1, .int t), (2, .ref (b + 27 + 7 * s 0)), (3, .int (nI (hitN (q 0).2.2.2 t (i + 1)))), (4, .int (nI (i + 1)))] rfl ⟨rfl, rfl, rfl, (by rw [show hitN (q 0).2.2.2 t (i + 1) = hitN (q 0).2.2.2 t i + 1 from by rw [hitN_s, e]; rfl, nI_succ]; rfl), (by rw [nI_succ]; rfl), trivial⟩ (ih (i + 1) f2 (by omega) (by omega) x2 (hF.tr y2))

theorem c_21 {S : XSc} {d : Nat} {h : XH} {Q : XO → XH → Prop} {b np no : Nat} {nn : Int32} {sc : Nat} {ho : Int32} {TS TH tr : Nat → Int32} {pl : Nat → XPl} {q : Nat → XQu} {s : Nat → Nat} {R : Nat → Nat → Nat} (hB : BdP h.1 b np no nn sc ho TS TH tr pl q s R) (h32 : 32 ≤ b)  {t : Int32} (h0 : 0 < no) (hs : sc < 100000) (hok : ∀ r, r < (q 0).2.2.1 → okE np ((q 0).2.2.2 r)) (k : ∀ f R s, BdP f b np (no - 1) nn (sc + 1) (payN (q 0).2.2.2 (q 0).2.1 t (q 0).2.2.1 (pl, (ho, (TS, TH)))).2.1 (payN (q 0).2.2.2 (q 0).2.1 t (q 0).2.2.1 (pl, (ho, (TS, TH)))).2.2.1 (payN (q 0).2.2.2 (q 0).2.1 t (q 0).2.2.1 (pl, (ho, (TS, TH)))).2.2.2 (fun j => if j = 0 then t else tr (j - 1)) (payN (q 0).2.2.2 (q 0).2.1 t (q 0).2.2.1 (pl, (ho, (TS, TH)))).1 (rot q 0 (no - 1)) s R → Fr h.1 f b (b + 69) → Q (.inl (some (.int (nI (hitN (q 0).2.2.2 t (q 0).2.2.1))))) (f, h.2)) : xP S (d + 3) 21 0 [(0, .ref b), (1, .int t)] [] h Q := by
  obtain ⟨b1, ⟨b2n, b2o, b2s⟩, b3, b4, b5, b6, b7, b8, b9, b10⟩ := id hB
  refine xs_f 1 r_21_0 rfl ?_
  refine xs_get 4 r_21_1 rfl rfl (by first | assumption | exact xup_s | exact (b7 _ (by omega)).1 | exact (b10 _ (by omega)).1 | (refine (xup_n (by omega)).trans ?_; first | assumption | exact xup_s | exact (b7 _ (by omega)).1 | exact (b10 _ (by omega)).1) | (refine (xup_n (by omega)).trans ((xup_n (by omega)).trans ?_); first | assumption | exact xup_s | exact (b7 _ (by omega)).1 | exact (b10 _ (by omega)).1) | (refine (xup_n (by omega)).trans ((xup_n (by omega)).trans ((xup_n (by omega)).trans ?_)); first | assumption | exact xup_s | exact (b7 _ (by omega)).1 | exact (b10 _ (by omega)).1)) (by rfl) ?_
  refine xs_f 5 r_21_4 rfl ?_
  refine xs_aldR 6 r_21_5 (fun _ _ => rfl) rfl rfl rfl (j := 0) (nI_k 0) (by first | assumption | (refine RA.fr ?_ (xup_n (by omega)); first | assumption) | (refine RA.fr (RA.fr ?_ (xup_n (by omega))) (xup_n (by omega)); first | assumption) | (refine RA.fr (RA.fr (RA.fr ?_ (xup_n (by omega))) (xup_n (by omega))) (xup_n (by omega)); first | assumption)) (by omega) ?_
  refine xs_f 7 (lv2 := [(2, _), (0, _), (1, _)]) r_21_6 rfl ?_
  refine xs_f 8 r_21_7 rfl ?_
  refine xs_f 9 (lv2 := [(3, _), (2, _), (0, _), (1, _)]) r_21_8 rfl ?_
  refine xs_f 10 r_21_9 rfl ?_
  refine xs_f 12 (lv2 := [(4, _), (3, _), (2, _), (0, _), (1, _)]) r_21_10 rfl ?_
  exact xP_lv [(0, .ref b), (1, .int t), (2, .ref (b + 27 + 7 * s 0)), (3, .int (nI (hitN (q 0).2.2.2 t 0))), (4, .int (nI 0))] rfl ⟨rfl, rfl, rfl, rfl, rfl, trivial⟩ (l_21 hB h32 h0 hs hok k ((q 0).2.2.1 + 1) 0 h.1 (by omega) (by omega) hB Fr.rf)

