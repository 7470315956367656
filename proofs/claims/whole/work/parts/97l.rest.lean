/-! the law: what it compares at once -/
theorem lw_6 {S : XSc} {d : Nat} {h : XH} {Q : XO → XH → Prop} {i c : Nat} (hi : i + 7 ≤ S.1) (hL : S.1 ≤ 3584) (hc : c ≤ 511) (hI : LwI h c) (k : ∀ h2, LwI h2 (c + 1) → xP S (d + 14) 286 2897 [(0, .ref 12), (1, .ref 32), (2, .ref 809), (3, .ref 818), (4, .ref 819), (5, .int (nI i))] [] h2 Q) : xP S (d + 14) 286 638 [(0, .ref 12), (1, .ref 32), (2, .ref 809), (3, .ref 818), (4, .ref 819), (5, .int (nI i))] [] h Q := by
  obtain ⟨H, Sv, pos, ch, sv, K, ea, fa, G, tn, Bu, on, Le, hP⟩ := hI
  obtain ⟨hX, hS, ⟨W, lo, hi2, hC⟩, ⟨p0, cc0, nu0, hT⟩, hZ, ⟨B, Mo, Pa, th, sp, wr, hM⟩, ⟨w0, hO⟩, hD, ⟨hK, h8, ht, hon⟩, hcn⟩ := id hP
  obtain ⟨o0, hHi, hSv, G8, hG8⟩ := id hX
  obtain ⟨mn, np, no, nn, N, sc, ho, TS, TH, tr, pl, q, s, R, hB, hr, hk, hN, hs⟩ := id hS
  obtain ⟨hG, ⟨r2, r3, r4⟩, r5, r6, r7, r8⟩ := id hr
  obtain ⟨m0, g0, b0, H0, S0, U0, L0, M0, A0⟩ := id hM
  have np5 := hG.1.2
  have no6 := hG.2.1.2
  have mm5 : ∀ i, i < no → (gQ G mn i).2.2.1 ≤ 5 := fun i hi => (hG.2.2 i (by omega)).2
  have M9 := hM
  refine xs_f 639 r_286_638 rfl ?_
  refine xs_call (lv2 := [(0, _)]) r_286_639 rfl rfl (by decide) (xcan_0 rfl rfl (by first | assumption | exact xup_s | exact o0 | (refine (xup_n (by omega)).trans ?_; first | assumption | exact xup_s | exact o0) | (refine (xup_n (by omega)).trans ((xup_n (by omega)).trans ?_); first | assumption | exact xup_s | exact o0) | (refine (xup_n (by omega)).trans ((xup_n (by omega)).trans ((xup_n (by omega)).trans ?_)); first | assumption | exact xup_s | exact o0)) (by rfl)) rfl (e_90 o0 hB (by omega) ?_)
  refine xK_v rfl ?_
  refine xs_f 643 r_286_642 rfl ?_
  refine xs_call (lv2 := [(0, _)]) r_286_643 rfl rfl (by decide) (xcan_0 rfl rfl M9.1 (by rfl)) rfl (m_179 m0 g0 hG (by omega) (fun f2 x2 y2 => ?_))
  refine xK_v rfl ?_
  refine xs_if 2897 649 r_286_646 rfl (fun hl => ?_) (fun hl => ?_)
  · exact xP_lv [(0, .ref 12), (1, .ref 32), (2, .ref 809), (3, .ref 818), (4, .ref 819), (5, .int (nI i))] rfl ⟨rfl, rfl, rfl, rfl, rfl, rfl, trivial⟩ (k _ (hP.q (h2 := (f2, _)) (fun x h1 h2 h3 h4 => y2 x (by omega)) ⟨_, _, _, x2⟩ ⟨_, hO.fr (y2 _ (by omega))⟩ (hD.fr (y2 _ (by omega))) ⟨_, _, _, hC.fr (fun x h1 h2 => y2 x (by omega))⟩ (Or.inl rfl)))
  · exact absurd (rfl) hl

theorem lw_9 {S : XSc} {d : Nat} {h : XH} {Q : XO → XH → Prop} {i c : Nat} (hi : i + 7 ≤ S.1) (hL : S.1 ≤ 3584) (hc : c ≤ 511) (hI : LwI h c) (k : ∀ h2, LwI h2 (c + 1) → xP S (d + 14) 286 2897 [(0, .ref 12), (1, .ref 32), (2, .ref 809), (3, .ref 818), (4, .ref 819), (5, .int (nI i))] [] h2 Q) : xP S (d + 14) 286 770 [(0, .ref 12), (1, .ref 32), (2, .ref 809), (3, .ref 818), (4, .ref 819), (5, .int (nI i))] [] h Q := by
  obtain ⟨H, Sv, pos, ch, sv, K, ea, fa, G, tn, Bu, on, Le, hP⟩ := hI
  obtain ⟨hX, hS, ⟨W, lo, hi2, hC⟩, ⟨p0, cc0, nu0, hT⟩, hZ, ⟨B, Mo, Pa, th, sp, wr, hM⟩, ⟨w0, hO⟩, hD, ⟨hK, h8, ht, hon⟩, hcn⟩ := id hP
  obtain ⟨o0, hHi, hSv, G8, hG8⟩ := id hX
  obtain ⟨mn, np, no, nn, N, sc, ho, TS, TH, tr, pl, q, s, R, hB, hr, hk, hN, hs⟩ := id hS
  obtain ⟨hG, ⟨r2, r3, r4⟩, r5, r6, r7, r8⟩ := id hr
  obtain ⟨m0, g0, b0, H0, S0, U0, L0, M0, A0⟩ := id hM
  have np5 := hG.1.2
  have no6 := hG.2.1.2
  have mm5 : ∀ i, i < no → (gQ G mn i).2.2.1 ≤ 5 := fun i hi => (hG.2.2 i (by omega)).2
  have M9 := hM
  refine xs_f 771 r_286_770 rfl ?_
  refine xs_call (lv2 := [(0, _)]) r_286_771 rfl rfl (by decide) (xcan_0 rfl rfl (by first | assumption | exact xup_s | exact o0 | (refine (xup_n (by omega)).trans ?_; first | assumption | exact xup_s | exact o0) | (refine (xup_n (by omega)).trans ((xup_n (by omega)).trans ?_); first | assumption | exact xup_s | exact o0) | (refine (xup_n (by omega)).trans ((xup_n (by omega)).trans ((xup_n (by omega)).trans ?_)); first | assumption | exact xup_s | exact o0)) (by rfl)) rfl (e_93 o0 hB (by omega) ?_)
  refine xK_v rfl ?_
  refine xs_f 775 r_286_774 rfl ?_
  refine xs_call (lv2 := [(0, _)]) r_286_775 rfl rfl (by decide) (xcan_0 rfl rfl M9.1 (by rfl)) rfl (m_182 m0 g0 hG (by omega) (fun f2 x2 y2 => ?_))
  refine xK_v rfl ?_
  refine xs_if 2897 781 r_286_778 rfl (fun hl => ?_) (fun hl => ?_)
  · exact xP_lv [(0, .ref 12), (1, .ref 32), (2, .ref 809), (3, .ref 818), (4, .ref 819), (5, .int (nI i))] rfl ⟨rfl, rfl, rfl, rfl, rfl, rfl, trivial⟩ (k _ (hP.q (h2 := (f2, _)) (fun x h1 h2 h3 h4 => y2 x (by omega)) ⟨_, _, _, x2⟩ ⟨_, hO.fr (y2 _ (by omega))⟩ (hD.fr (y2 _ (by omega))) ⟨_, _, _, hC.fr (fun x h1 h2 => y2 x (by omega))⟩ (Or.inl rfl)))
  · exact absurd (r3.symm) hl

theorem lw_10 {S : XSc} {d : Nat} {h : XH} {Q : XO → XH → Prop} {i c : Nat} (hi : i + 7 ≤ S.1) (hL : S.1 ≤ 3584) (hc : c ≤ 511) (hI : LwI h c) (k : ∀ h2, LwI h2 (c + 1) → xP S (d + 14) 286 2897 [(0, .ref 12), (1, .ref 32), (2, .ref 809), (3, .ref 818), (4, .ref 819), (5, .int (nI i))] [] h2 Q) : xP S (d + 14) 286 783 [(0, .ref 12), (1, .ref 32), (2, .ref 809), (3, .ref 818), (4, .ref 819), (5, .int (nI i))] [] h Q := by
  obtain ⟨H, Sv, pos, ch, sv, K, ea, fa, G, tn, Bu, on, Le, hP⟩ := hI
  obtain ⟨hX, hS, ⟨W, lo, hi2, hC⟩, ⟨p0, cc0, nu0, hT⟩, hZ, ⟨B, Mo, Pa, th, sp, wr, hM⟩, ⟨w0, hO⟩, hD, ⟨hK, h8, ht, hon⟩, hcn⟩ := id hP
  obtain ⟨o0, hHi, hSv, G8, hG8⟩ := id hX
  obtain ⟨mn, np, no, nn, N, sc, ho, TS, TH, tr, pl, q, s, R, hB, hr, hk, hN, hs⟩ := id hS
  obtain ⟨hG, ⟨r2, r3, r4⟩, r5, r6, r7, r8⟩ := id hr
  obtain ⟨m0, g0, b0, H0, S0, U0, L0, M0, A0⟩ := id hM
  have np5 := hG.1.2
  have no6 := hG.2.1.2
  have mm5 : ∀ i, i < no → (gQ G mn i).2.2.1 ≤ 5 := fun i hi => (hG.2.2 i (by omega)).2
  have M9 := hM
  refine xs_f 784 r_286_783 rfl ?_
  refine xs_call (lv2 := [(0, _)]) r_286_784 rfl rfl (by decide) (xcan_0 rfl rfl (by first | assumption | exact xup_s | exact o0 | (refine (xup_n (by omega)).trans ?_; first | assumption | exact xup_s | exact o0) | (refine (xup_n (by omega)).trans ((xup_n (by omega)).trans ?_); first | assumption | exact xup_s | exact o0) | (refine (xup_n (by omega)).trans ((xup_n (by omega)).trans ((xup_n (by omega)).trans ?_)); first | assumption | exact xup_s | exact o0)) (by rfl)) rfl (e_94 o0 hB (by omega) ?_)
  refine xK_v rfl ?_
  refine xs_f 788 r_286_787 rfl ?_
  refine xs_call (lv2 := [(0, _)]) r_286_788 rfl rfl (by decide) (xcan_0 rfl rfl M9.1 (by rfl)) rfl (m_183 m0 g0 hG (by omega) (fun f2 x2 y2 => ?_))
  refine xK_v rfl ?_
  refine xs_if 2897 794 r_286_791 rfl (fun hl => ?_) (fun hl => ?_)
  · exact xP_lv [(0, .ref 12), (1, .ref 32), (2, .ref 809), (3, .ref 818), (4, .ref 819), (5, .int (nI i))] rfl ⟨rfl, rfl, rfl, rfl, rfl, rfl, trivial⟩ (k _ (hP.q (h2 := (f2, _)) (fun x h1 h2 h3 h4 => y2 x (by omega)) ⟨_, _, _, x2⟩ ⟨_, hO.fr (y2 _ (by omega))⟩ (hD.fr (y2 _ (by omega))) ⟨_, _, _, hC.fr (fun x h1 h2 => y2 x (by omega))⟩ (Or.inl rfl)))
  · exact absurd (xsum_eq (fun i hi => stkQ_eqQ (r7 i hi))) hl

theorem lw_11 {S : XSc} {d : Nat} {h : XH} {Q : XO → XH → Prop} {i c : Nat} (hi : i + 7 ≤ S.1) (hL : S.1 ≤ 3584) (hc : c ≤ 511) (hI : LwI h c) (k : ∀ h2, LwI h2 (c + 1) → xP S (d + 14) 286 2897 [(0, .ref 12), (1, .ref 32), (2, .ref 809), (3, .ref 818), (4, .ref 819), (5, .int (nI i))] [] h2 Q) : xP S (d + 14) 286 796 [(0, .ref 12), (1, .ref 32), (2, .ref 809), (3, .ref 818), (4, .ref 819), (5, .int (nI i))] [] h Q := by
  obtain ⟨H, Sv, pos, ch, sv, K, ea, fa, G, tn, Bu, on, Le, hP⟩ := hI
  obtain ⟨hX, hS, ⟨W, lo, hi2, hC⟩, ⟨p0, cc0, nu0, hT⟩, hZ, ⟨B, Mo, Pa, th, sp, wr, hM⟩, ⟨w0, hO⟩, hD, ⟨hK, h8, ht, hon⟩, hcn⟩ := id hP
  obtain ⟨o0, hHi, hSv, G8, hG8⟩ := id hX
  obtain ⟨mn, np, no, nn, N, sc, ho, TS, TH, tr, pl, q, s, R, hB, hr, hk, hN, hs⟩ := id hS
  obtain ⟨hG, ⟨r2, r3, r4⟩, r5, r6, r7, r8⟩ := id hr
  obtain ⟨m0, g0, b0, H0, S0, U0, L0, M0, A0⟩ := id hM
  have np5 := hG.1.2
  have no6 := hG.2.1.2
  have mm5 : ∀ i, i < no → (gQ G mn i).2.2.1 ≤ 5 := fun i hi => (hG.2.2 i (by omega)).2
  have M9 := hM
  refine xs_f 797 r_286_796 rfl ?_
  refine xs_call (lv2 := [(0, _)]) r_286_797 rfl rfl (by decide) (xcan_0 rfl rfl (by first | assumption | exact xup_s | exact o0 | (refine (xup_n (by omega)).trans ?_; first | assumption | exact xup_s | exact o0) | (refine (xup_n (by omega)).trans ((xup_n (by omega)).trans ?_); first | assumption | exact xup_s | exact o0) | (refine (xup_n (by omega)).trans ((xup_n (by omega)).trans ((xup_n (by omega)).trans ?_)); first | assumption | exact xup_s | exact o0)) (by rfl)) rfl (e_95 o0 hB (by omega) ?_)
  refine xK_v rfl ?_
  refine xs_f 801 r_286_800 rfl ?_
  refine xs_call (lv2 := [(0, _)]) r_286_801 rfl rfl (by decide) (xcan_0 rfl rfl M9.1 (by rfl)) rfl (m_184 m0 g0 hG (by omega) (fun f2 x2 y2 => ?_))
  refine xK_v rfl ?_
  refine xs_if 2897 807 r_286_804 rfl (fun hl => ?_) (fun hl => ?_)
  · exact xP_lv [(0, .ref 12), (1, .ref 32), (2, .ref 809), (3, .ref 818), (4, .ref 819), (5, .int (nI i))] rfl ⟨rfl, rfl, rfl, rfl, rfl, rfl, trivial⟩ (k _ (hP.q (h2 := (f2, _)) (fun x h1 h2 h3 h4 => y2 x (by omega)) ⟨_, _, _, x2⟩ ⟨_, hO.fr (y2 _ (by omega))⟩ (hD.fr (y2 _ (by omega))) ⟨_, _, _, hC.fr (fun x h1 h2 => y2 x (by omega))⟩ (Or.inl rfl)))
  · exact absurd (rfl) hl

theorem lw_27 {S : XSc} {d : Nat} {h : XH} {Q : XO → XH → Prop} {i c : Nat} (hi : i + 7 ≤ S.1) (hL : S.1 ≤ 3584) (hc : c ≤ 511) (hI : LwI h c) (k : ∀ h2, LwI h2 (c + 1) → xP S (d + 14) 286 2897 [(0, .ref 12), (1, .ref 32), (2, .ref 809), (3, .ref 818), (4, .ref 819), (5, .int (nI i))] [] h2 Q) : xP S (d + 14) 286 1752 [(0, .ref 12), (1, .ref 32), (2, .ref 809), (3, .ref 818), (4, .ref 819), (5, .int (nI i))] [] h Q := by
  obtain ⟨H, Sv, pos, ch, sv, K, ea, fa, G, tn, Bu, on, Le, hP⟩ := hI
  obtain ⟨hX, hS, ⟨W, lo, hi2, hC⟩, ⟨p0, cc0, nu0, hT⟩, hZ, ⟨B, Mo, Pa, th, sp, wr, hM⟩, ⟨w0, hO⟩, hD, ⟨hK, h8, ht, hon⟩, hcn⟩ := id hP
  obtain ⟨o0, hHi, hSv, G8, hG8⟩ := id hX
  obtain ⟨mn, np, no, nn, N, sc, ho, TS, TH, tr, pl, q, s, R, hB, hr, hk, hN, hs⟩ := id hS
  obtain ⟨hG, ⟨r2, r3, r4⟩, r5, r6, r7, r8⟩ := id hr
  obtain ⟨m0, g0, b0, H0, S0, U0, L0, M0, A0⟩ := id hM
  have np5 := hG.1.2
  have no6 := hG.2.1.2
  have mm5 : ∀ i, i < no → (gQ G mn i).2.2.1 ≤ 5 := fun i hi => (hG.2.2 i (by omega)).2
  have M9 := hM
  refine xs_f 1753 r_286_1752 rfl ?_
  refine xs_call (lv2 := [(0, _)]) r_286_1753 rfl rfl (by decide) (xcan_0 rfl rfl (by first | assumption | exact xup_s | exact o0 | (refine (xup_n (by omega)).trans ?_; first | assumption | exact xup_s | exact o0) | (refine (xup_n (by omega)).trans ((xup_n (by omega)).trans ?_); first | assumption | exact xup_s | exact o0) | (refine (xup_n (by omega)).trans ((xup_n (by omega)).trans ((xup_n (by omega)).trans ?_)); first | assumption | exact xup_s | exact o0)) (by rfl)) rfl (e_111 o0 hB (by omega) ?_)
  refine xK_v rfl ?_
  refine xs_f 1757 r_286_1756 rfl ?_
  refine xs_call (lv2 := [(0, _)]) r_286_1757 rfl rfl (by decide) (xcan_0 rfl rfl M9.1 (by rfl)) rfl (m_203 m0 g0 hG (by omega) r4 (fun f2 x2 y2 => ?_))
  refine xK_v rfl ?_
  refine xs_if 2897 1763 r_286_1760 rfl (fun hl => ?_) (fun hl => ?_)
  · exact xP_lv [(0, .ref 12), (1, .ref 32), (2, .ref 809), (3, .ref 818), (4, .ref 819), (5, .int (nI i))] rfl ⟨rfl, rfl, rfl, rfl, rfl, rfl, trivial⟩ (k _ (hP.q (h2 := (f2, _)) (fun x h1 h2 h3 h4 => y2 x (by omega)) ⟨_, _, _, x2⟩ ⟨_, hO.fr (y2 _ (by omega))⟩ (hD.fr (y2 _ (by omega))) ⟨_, _, _, hC.fr (fun x h1 h2 => y2 x (by omega))⟩ (Or.inl rfl)))
  · exact absurd (rfl) hl

theorem lw_47 {S : XSc} {d : Nat} {h : XH} {Q : XO → XH → Prop} {i c : Nat} (hi : i + 7 ≤ S.1) (hL : S.1 ≤ 3584) (hc : c ≤ 511) (hI : LwI h c) (k : ∀ h2, LwI h2 (c + 1) → xP S (d + 14) 286 2897 [(0, .ref 12), (1, .ref 32), (2, .ref 809), (3, .ref 818), (4, .ref 819), (5, .int (nI i))] [] h2 Q) : xP S (d + 14) 286 2783 [(0, .ref 12), (1, .ref 32), (2, .ref 809), (3, .ref 818), (4, .ref 819), (5, .int (nI i))] [] h Q := by
  obtain ⟨H, Sv, pos, ch, sv, K, ea, fa, G, tn, Bu, on, Le, hP⟩ := hI
  obtain ⟨hX, hS, ⟨W, lo, hi2, hC⟩, ⟨p0, cc0, nu0, hT⟩, hZ, ⟨B, Mo, Pa, th, sp, wr, hM⟩, ⟨w0, hO⟩, hD, ⟨hK, h8, ht, hon⟩, hcn⟩ := id hP
  obtain ⟨o0, hHi, hSv, G8, hG8⟩ := id hX
  obtain ⟨mn, np, no, nn, N, sc, ho, TS, TH, tr, pl, q, s, R, hB, hr, hk, hN, hs⟩ := id hS
  obtain ⟨hG, ⟨r2, r3, r4⟩, r5, r6, r7, r8⟩ := id hr
  obtain ⟨m0, g0, b0, H0, S0, U0, L0, M0, A0⟩ := id hM
  have np5 := hG.1.2
  have no6 := hG.2.1.2
  have mm5 : ∀ i, i < no → (gQ G mn i).2.2.1 ≤ 5 := fun i hi => (hG.2.2 i (by omega)).2
  have M9 := hM
  refine xs_f 2784 r_286_2783 rfl ?_
  refine xs_call (lv2 := [(0, _)]) r_286_2784 rfl rfl (by decide) (xcan_0 rfl rfl (by first | assumption | exact xup_s | exact o0 | (refine (xup_n (by omega)).trans ?_; first | assumption | exact xup_s | exact o0) | (refine (xup_n (by omega)).trans ((xup_n (by omega)).trans ?_); first | assumption | exact xup_s | exact o0) | (refine (xup_n (by omega)).trans ((xup_n (by omega)).trans ((xup_n (by omega)).trans ?_)); first | assumption | exact xup_s | exact o0)) (by rfl)) rfl (e_131 hX hS ?_)
  refine xK_v rfl ?_
  refine xs_f 2788 r_286_2787 rfl ?_
  refine xs_call (lv2 := [(0, _)]) r_286_2788 rfl rfl (by decide) (xcan_0 rfl rfl M9.1 (by rfl)) rfl (m_239 m0 g0 hG (by omega) trivial (fun f2 x2 y2 => ?_))
  refine xK_v rfl ?_
  refine xs_if 2897 2794 r_286_2791 rfl (fun hl => ?_) (fun hl => ?_)
  · exact xP_lv [(0, .ref 12), (1, .ref 32), (2, .ref 809), (3, .ref 818), (4, .ref 819), (5, .int (nI i))] rfl ⟨rfl, rfl, rfl, rfl, rfl, rfl, trivial⟩ (k _ (hP.q (h2 := (f2, _)) (fun x h1 h2 h3 h4 => y2 x (by omega)) ⟨_, _, _, x2⟩ ⟨_, hO.fr (y2 _ (by omega))⟩ (hD.fr (y2 _ (by omega))) ⟨_, _, _, hC.fr (fun x h1 h2 => y2 x (by omega))⟩ (Or.inl rfl)))
  · exact absurd (rfl) hl

theorem lw_40 {S : XSc} {d : Nat} {h : XH} {Q : XO → XH → Prop} {i c : Nat} (hi : i + 7 ≤ S.1) (hL : S.1 ≤ 3584) (hc : c ≤ 511) (hI : LwI h c) (k : ∀ h2, LwI h2 (c + 1) → xP S (d + 14) 286 2897 [(0, .ref 12), (1, .ref 32), (2, .ref 809), (3, .ref 818), (4, .ref 819), (5, .int (nI i))] [] h2 Q) : xP S (d + 14) 286 2468 [(0, .ref 12), (1, .ref 32), (2, .ref 809), (3, .ref 818), (4, .ref 819), (5, .int (nI i))] [] h Q := by
  obtain ⟨H, Sv, pos, ch, sv, K, ea, fa, G, tn, Bu, on, Le, hP⟩ := hI
  obtain ⟨hX, hS, ⟨W, lo, hi2, hC⟩, ⟨p0, cc0, nu0, hT⟩, hZ, ⟨B, Mo, Pa, th, sp, wr, hM⟩, ⟨w0, hO⟩, hD, ⟨hK, h8, ht, hon⟩, hcn⟩ := id hP
  obtain ⟨o0, hHi, hSv, G8, hG8⟩ := id hX
  obtain ⟨mn, np, no, nn, N, sc, ho, TS, TH, tr, pl, q, s, R, hB, hr, hk, hN, hs⟩ := id hS
  obtain ⟨hG, ⟨r2, r3, r4⟩, r5, r6, r7, r8⟩ := id hr
  obtain ⟨m0, g0, b0, H0, S0, U0, L0, M0, A0⟩ := id hM
  have np5 := hG.1.2
  have no6 := hG.2.1.2
  have mm5 : ∀ i, i < no → (gQ G mn i).2.2.1 ≤ 5 := fun i hi => (hG.2.2 i (by omega)).2
  obtain ⟨L, U, hE⟩ := ends_of hk
  have hs1 : xacc (ho + xsum (fun i => stkQ (q i)) no) (fun i => (pl i).1) np = 100 * nI np := by
    rw [xacc_sum, ← hk.2.2.1]
    unfold sumC
    grind
  refine xs_f 2469 r_286_2468 rfl ?_
  refine xs_call (lv2 := [(0, _)]) r_286_2469 rfl rfl (by decide) (xcan_0 rfl rfl (by first | assumption | exact xup_s | exact o0 | (refine (xup_n (by omega)).trans ?_; first | assumption | exact xup_s | exact o0) | (refine (xup_n (by omega)).trans ((xup_n (by omega)).trans ?_); first | assumption | exact xup_s | exact o0) | (refine (xup_n (by omega)).trans ((xup_n (by omega)).trans ((xup_n (by omega)).trans ?_)); first | assumption | exact xup_s | exact o0)) (by rfl)) rfl (e_124 o0 hB (by omega) hC (by omega) hE (Or.inl (by omega)) hs1 (fun j h1 h9 => (hk.2.2.2.1 j (by omega)).1) (fun f8 W8 lo8 hi8 c8 y8 => ?_))
  have M9 := hM.fr (g := f8) (fun x z1 z2 => y8 x (by omega))
  refine xK_v rfl ?_
  refine xs_f 2473 r_286_2472 rfl ?_
  refine xs_call (lv2 := [(0, _)]) r_286_2473 rfl rfl (by decide) (xcan_0 rfl rfl M9.1 (by rfl)) rfl (m_220 M9.1 (M9.2.1) hG (by omega) (fun f2 x2 y2 => ?_))
  refine xK_v rfl ?_
  refine xs_f 2897 r_286_2476 rfl ?_
  exact xP_lv [(0, .ref 12), (1, .ref 32), (2, .ref 809), (3, .ref 818), (4, .ref 819), (5, .int (nI i))] rfl ⟨rfl, rfl, rfl, rfl, rfl, rfl, trivial⟩ (k _ (hP.q (h2 := (f2, _)) (fun x h1 h2 h3 h4 => (y2 x (by omega)).trans (y8 x (by omega))) ⟨_, _, _, x2⟩ ⟨_, hO.fr ((y2 _ (by omega)).trans (y8 _ (by omega)))⟩ (hD.fr ((y2 _ (by omega)).trans (y8 _ (by omega)))) ⟨_, _, _, c8.fr (fun x h1 h2 => y2 x (by omega))⟩ (Or.inl rfl)))

theorem lw_49 {S : XSc} {d : Nat} {h : XH} {Q : XO → XH → Prop} {i c : Nat} (hi : i + 7 ≤ S.1) (hL : S.1 ≤ 3584) (hc : c ≤ 511) (hI : LwI h c) (k : ∀ h2, LwI h2 (c + 1) → xP S (d + 14) 286 2897 [(0, .ref 12), (1, .ref 32), (2, .ref 809), (3, .ref 818), (4, .ref 819), (5, .int (nI i))] [] h2 Q) : xP S (d + 14) 286 2840 [(0, .ref 12), (1, .ref 32), (2, .ref 809), (3, .ref 818), (4, .ref 819), (5, .int (nI i))] [] h Q := by
  obtain ⟨H, Sv, pos, ch, sv, K, ea, fa, G, tn, Bu, on, Le, hP⟩ := hI
  obtain ⟨hX, hS, ⟨W, lo, hi2, hC⟩, ⟨p0, cc0, nu0, hT⟩, hZ, ⟨B, Mo, Pa, th, sp, wr, hM⟩, ⟨w0, hO⟩, hD, ⟨hK, h8, ht, hon⟩, hcn⟩ := id hP
  obtain ⟨o0, hHi, hSv, G8, hG8⟩ := id hX
  obtain ⟨mn, np, no, nn, N, sc, ho, TS, TH, tr, pl, q, s, R, hB, hr, hk, hN, hs⟩ := id hS
  obtain ⟨hG, ⟨r2, r3, r4⟩, r5, r6, r7, r8⟩ := id hr
  obtain ⟨m0, g0, b0, H0, S0, U0, L0, M0, A0⟩ := id hM
  have np5 := hG.1.2
  have no6 := hG.2.1.2
  have mm5 : ∀ i, i < no → (gQ G mn i).2.2.1 ≤ 5 := fun i hi => (hG.2.2 i (by omega)).2
  refine xs_f 2841 r_286_2840 rfl ?_
  refine xs_call (lv2 := [(0, _)]) r_286_2841 rfl rfl (by decide) (xcan_0 rfl rfl (by first | assumption | exact xup_s | exact o0 | (refine (xup_n (by omega)).trans ?_; first | assumption | exact xup_s | exact o0) | (refine (xup_n (by omega)).trans ((xup_n (by omega)).trans ?_); first | assumption | exact xup_s | exact o0) | (refine (xup_n (by omega)).trans ((xup_n (by omega)).trans ((xup_n (by omega)).trans ?_)); first | assumption | exact xup_s | exact o0)) (by rfl)) rfl (e_133 (N := N) hX hS hB (fun f8 X8 S8 y8 => ?_))
  have M9 := hM.fr (g := f8) (fun x z1 z2 => y8 x (by omega))
  refine xK_v rfl ?_
  refine xs_f 2845 r_286_2844 rfl ?_
  refine xs_call (lv2 := [(0, _)]) r_286_2845 rfl rfl (by decide) (xcan_0 rfl rfl M9.1 (by rfl)) rfl (m_241 M9 hG (by omega) h8 (fun _ f2 M2 y2 => ?_))
  refine xK_v rfl ?_
  refine xs_if 2897 2851 r_286_2848 rfl (fun hl => ?_) (fun hl => ?_)
  · exact xP_lv [(0, .ref 12), (1, .ref 32), (2, .ref 809), (3, .ref 818), (4, .ref 819), (5, .int (nI i))] rfl ⟨rfl, rfl, rfl, rfl, rfl, rfl, trivial⟩ (k _ (hP.p (h2 := (f2, _)) (X8.fr (fun x hx => y2 x (by omega))) (S8.fr (fun x z1 z2 => y2 x (by omega))) ⟨_, _, _, hT.fr (fun x z1 z2 => (y2 x (by omega)).trans (y8 x (by omega)))⟩ ⟨_, _, _, _, _, _, M2⟩ ⟨_, hO.fr ((y2 _ (by omega)).trans (y8 _ (by omega)))⟩ (fun x hx => (y2 x (by omega)).trans (y8 x (by omega))) (Or.inl rfl) (by omega) (by omega) (by omega)))
  · exact absurd (rfl) hl

theorem lw_48 {S : XSc} {d : Nat} {h : XH} {Q : XO → XH → Prop} {i c : Nat} (hi : i + 7 ≤ S.1) (hL : S.1 ≤ 3584) (hc : c ≤ 511) (hI : LwI h c) (k : ∀ h2, LwI h2 (c + 1) → xP S (d + 14) 286 2897 [(0, .ref 12), (1, .ref 32), (2, .ref 809), (3, .ref 818), (4, .ref 819), (5, .int (nI i))] [] h2 Q) : xP S (d + 14) 286 2796 [(0, .ref 12), (1, .ref 32), (2, .ref 809), (3, .ref 818), (4, .ref 819), (5, .int (nI i))] [] h Q := by
  obtain ⟨H, Sv, pos, ch, sv, K, ea, fa, G, tn, Bu, on, Le, hP⟩ := hI
  obtain ⟨hX, hS, ⟨W, lo, hi2, hC⟩, ⟨p0, cc0, nu0, hT⟩, hZ, ⟨B, Mo, Pa, th, sp, wr, hM⟩, ⟨w0, hO⟩, hD, ⟨hK, h8, ht, hon⟩, hcn⟩ := id hP
  obtain ⟨o0, hHi, hSv, G8, hG8⟩ := id hX
  obtain ⟨mn, np, no, nn, N, sc, ho, TS, TH, tr, pl, q, s, R, hB, hr, hk, hN, hs⟩ := id hS
  obtain ⟨hG, ⟨r2, r3, r4⟩, r5, r6, r7, r8⟩ := id hr
  obtain ⟨m0, g0, b0, H0, S0, U0, L0, M0, A0⟩ := id hM
  have np5 := hG.1.2
  have no6 := hG.2.1.2
  have mm5 : ∀ i, i < no → (gQ G mn i).2.2.1 ≤ 5 := fun i hi => (hG.2.2 i (by omega)).2
  refine xs_f 2797 r_286_2796 rfl ?_
  refine xs_f 2798 r_286_2797 rfl ?_
  refine xs_call (lv2 := [(0, _), (1, _)]) r_286_2798 rfl rfl (by decide) (xcan_3 rfl rfl) rfl ?_
  refine xs_f 1 r_284_0 rfl ?_
  refine xs_f 2 r_284_1 rfl ?_
  refine xs_f 3 r_284_2 rfl ?_
  refine xs_call (lv2 := [(0, _)]) r_284_3 rfl rfl (by decide) (xcan_0 rfl rfl (by first | assumption | exact xup_s | exact o0 | exact M9.1 | (refine (xup_n (by omega)).trans ?_; first | assumption | exact xup_s | exact o0 | exact M9.1) | (refine (xup_n (by omega)).trans ((xup_n (by omega)).trans ?_); first | assumption | exact xup_s | exact o0 | exact M9.1) | (refine (xup_n (by omega)).trans ((xup_n (by omega)).trans ((xup_n (by omega)).trans ?_)); first | assumption | exact xup_s | exact o0 | exact M9.1)) (by rfl)) rfl (e_132 hX hS (fun z9 => ?_) (fun z9 f8 pos8 X8 S8 y8 => ?_))
  · have zM : (1 : Nat) = 1 := rfl
    have X8 := hX
    have S8 := hS
    have T8 : ∃ p cc nu, TxP h.1 804 tn p cc Bu nu := ⟨_, _, _, hT⟩
    have e8 : ∀ x, (((794 ≤ x ∧ x < 804) ∨ 807 ≤ x)) → h.1 x = h.1 x := fun _ _ => rfl
    have X9 := X8
    have S9 := S8
    have T9 := T8
    have O9 : LA (xbump (h.1, h.2)).1 818 1 w0 := hO.fr (e8 818 (by omega))
    have e9 : ∀ x, (((794 ≤ x ∧ x < 804) ∨ 807 ≤ x)) → x ≠ 818 → (xbump (h.1, h.2)).1 x = h.1 x := fun x h1 h2 => e8 x h1
    have M9 := hM.fr (fun x z1 z2 => e9 x (by omega) (by omega))
    have B9 : (xbump (h.1, h.2)).2 = h.2 ∨ (xbump (h.1, h.2)).2 = (xbump h).2 := Or.inr rfl
    refine xK_c (lv2 := [(0, _), (1, _)]) rfl rfl rfl rfl ?_
    refine xs_f 13 r_284_12 rfl ?_
    refine xs_ret r_284_13 rfl ?_
    refine xK_v rfl ?_
    refine xs_f 2803 (lv2 := [(6, _), (0, _), (1, _), (2, _), (3, _), (4, _), (5, _)]) r_286_2801 rfl ?_
    refine xs_f 2804 r_286_2803 rfl ?_
    refine xs_call (lv2 := [(0, _)]) r_286_2804 rfl rfl (by decide) (xcan_0 rfl rfl M9.1 (by rfl)) rfl (m_240 M9 hG (by omega) h8 (fun hc f2 M2 y2 => ?_) (fun hc => absurd hc (by omega)))
    refine xK_v rfl ?_
    refine xs_f 2809 (lv2 := [(7, _), (6, _), (0, _), (1, _), (2, _), (3, _), (4, _), (5, _)]) r_286_2807 rfl ?_
    refine xs_f 2810 r_286_2809 rfl ?_
    refine xs_call (lv2 := [(0, _)]) r_286_2810 rfl rfl (by decide) (xcan_0 rfl rfl M2.1 (by rfl)) rfl ?_
    refine xs_f 1 r_149_0 rfl ?_
    refine xs_get 4 r_149_1 rfl rfl M2.1 (by rfl) ?_
    refine xs_ret r_149_4 rfl ?_
    refine xK_v rfl ?_
    refine xs_f 2815 r_286_2813 rfl ?_
    refine xs_f 2820 r_286_2815 rfl ?_
    refine xs_f 2822 r_286_2820 rfl ?_
    refine xs_f 2837 r_286_2822 rfl ?_
    refine xs_f 2897 r_286_2837 rfl ?_
    obtain ⟨p9, c9, n9, t9⟩ := T9
    exact xP_lv [(0, .ref 12), (1, .ref 32), (2, .ref 809), (3, .ref 818), (4, .ref 819), (5, .int (nI i))] rfl ⟨rfl, rfl, rfl, rfl, rfl, rfl, trivial⟩ (k _ (hP.p (h2 := (f2, _)) (X9.fr (fun x hx => y2 x (by omega))) (S9.fr (fun x z1 z2 => y2 x (by omega))) ⟨p9, c9, n9, t9.fr (fun x z1 z2 => y2 x (by omega))⟩ ⟨_, _, _, _, _, _, M2⟩ ⟨_, O9.fr (y2 _ (by omega))⟩ (fun x hx => (y2 x (by omega)).trans (e9 x (by omega) (by omega))) B9 (by omega) (by omega) (by omega)))
  · have q9 : nI (ch - 1) = nI (ch - 1) := rfl
    have T8 : ∃ p cc nu, TxP f8 804 tn p cc Bu nu := ⟨_, _, _, hT.fr (fun x z1 z2 => y8 x (by omega))⟩
    have e8 : ∀ x, (((794 ≤ x ∧ x < 804) ∨ 807 ≤ x)) → f8 x = h.1 x := fun x h1 => y8 x (by omega)
    refine xK_v rfl ?_
    refine xs_f 7 r_284_6 rfl ?_
    refine xs_astL 8 r_284_7 (fun _ _ => rfl) rfl rfl rfl (j := 0) (nI_k 0) (hO.fr (e8 818 (by omega))) (by omega) (fun f1 O9 y1 => ?_)
    have X9 := X8.fr (g := f1) (fun x hx => y1 x (by omega))
    have S9 := S8.fr (g := f1) (fun x z1 z2 => y1 x (by omega))
    obtain ⟨p8, c8, n8, t8⟩ := T8
    have T9 : ∃ p cc nu, TxP f1 804 _ p cc _ nu := ⟨p8, c8, n8, t8.fr (fun x z1 z2 => y1 x (by omega))⟩
    have e9 : ∀ x, (((794 ≤ x ∧ x < 804) ∨ 807 ≤ x)) → x ≠ 818 → f1 x = h.1 x := fun x h1 h2 => (y1 x (by omega)).trans (e8 x h1)
    have M9 := hM.fr (fun x z1 z2 => e9 x (by omega) (by omega))
    have B9 : h.2 = h.2 ∨ h.2 = (xbump h).2 := Or.inl rfl
    refine xs_f 14 r_284_8 rfl ?_
    refine xs_f 15 r_284_14 rfl ?_
    refine xs_ret r_284_15 rfl ?_
    refine xK_v rfl ?_
    refine xs_f 2803 (lv2 := [(6, _), (0, _), (1, _), (2, _), (3, _), (4, _), (5, _)]) r_286_2801 rfl ?_
    refine xs_f 2804 r_286_2803 rfl ?_
    refine xs_call (lv2 := [(0, _)]) r_286_2804 rfl rfl (by decide) (xcan_0 rfl rfl M9.1 (by rfl)) rfl (m_240 M9 hG (by omega) h8 (fun hc => absurd hc (by omega)) (fun hc f2 M2 y2 => ?_))
    refine xK_v rfl ?_
    refine xs_f 2809 (lv2 := [(7, _), (6, _), (0, _), (1, _), (2, _), (3, _), (4, _), (5, _)]) r_286_2807 rfl ?_
    refine xs_f 2810 r_286_2809 rfl ?_
    refine xs_call (lv2 := [(0, _)]) r_286_2810 rfl rfl (by decide) (xcan_0 rfl rfl M2.1 (by rfl)) rfl ?_
    refine xs_f 1 r_149_0 rfl ?_
    refine xs_get 4 r_149_1 rfl rfl M2.1 (by rfl) ?_
    refine xs_ret r_149_4 rfl ?_
    refine xK_v rfl ?_
    refine xs_f 2815 r_286_2813 rfl ?_
    refine xs_f 2820 r_286_2815 rfl ?_
    refine xs_f 2822 r_286_2820 rfl ?_
    refine xs_f 2825 r_286_2822 rfl ?_
    refine xs_f 2826 r_286_2825 rfl ?_
    refine xs_f 2827 r_286_2826 rfl ?_
    refine xs_aldL 2828 r_286_2827 (fun _ _ => rfl) rfl rfl rfl (j := 0) (nI_k 0) (O9.fr (y2 _ (by omega))) (by omega) ?_
    rw [xw_s]
    refine xs_f 2830 r_286_2828 rfl ?_
    refine xs_f 2831 r_286_2830 rfl ?_
    refine xs_f 2832 r_286_2831 rfl ?_
    refine xs_if 2837 2835 r_286_2832 rfl (fun hl => ?_) (fun hl => ?_)
    · refine xs_f 2897 r_286_2837 rfl ?_
      obtain ⟨p9, c9, n9, t9⟩ := T9
      exact xP_lv [(0, .ref 12), (1, .ref 32), (2, .ref 809), (3, .ref 818), (4, .ref 819), (5, .int (nI i))] rfl ⟨rfl, rfl, rfl, rfl, rfl, rfl, trivial⟩ (k _ (hP.p (h2 := (f2, _)) (X9.fr (fun x hx => y2 x (by omega))) (S9.fr (fun x z1 z2 => y2 x (by omega))) ⟨p9, c9, n9, t9.fr (fun x z1 z2 => y2 x (by omega))⟩ ⟨_, _, _, _, _, _, M2⟩ ⟨_, O9.fr (y2 _ (by omega))⟩ (fun x hx => (y2 x (by omega)).trans (e9 x (by omega) (by omega))) B9 (by omega) (by omega) (by omega)))
    · exact absurd (by rw [q9]; exact lg_cmp_r _) hl

theorem lw_50 {S : XSc} {d : Nat} {h : XH} {Q : XO → XH → Prop} {i c : Nat} (hi : i + 7 ≤ S.1) (hL : S.1 ≤ 3584) (hc : c ≤ 511) (hI : LwI h c) (k : ∀ h2, LwI h2 (c + 1) → xP S (d + 14) 286 2897 [(0, .ref 12), (1, .ref 32), (2, .ref 809), (3, .ref 818), (4, .ref 819), (5, .int (nI i))] [] h2 Q) : xP S (d + 14) 286 2853 [(0, .ref 12), (1, .ref 32), (2, .ref 809), (3, .ref 818), (4, .ref 819), (5, .int (nI i))] [] h Q := by
  obtain ⟨H, Sv, pos, ch, sv, K, ea, fa, G, tn, Bu, on, Le, hP⟩ := hI
  obtain ⟨hX, hS, ⟨W, lo, hi2, hC⟩, ⟨p0, cc0, nu0, hT⟩, hZ, ⟨B, Mo, Pa, th, sp, wr, hM⟩, ⟨w0, hO⟩, hD, ⟨hK, h8, ht, hon⟩, hcn⟩ := id hP
  obtain ⟨o0, hHi, hSv, G8, hG8⟩ := id hX
  obtain ⟨mn, np, no, nn, N, sc, ho, TS, TH, tr, pl, q, s, R, hB, hr, hk, hN, hs⟩ := id hS
  obtain ⟨hG, ⟨r2, r3, r4⟩, r5, r6, r7, r8⟩ := id hr
  obtain ⟨m0, g0, b0, H0, S0, U0, L0, M0, A0⟩ := id hM
  have np5 := hG.1.2
  have no6 := hG.2.1.2
  have mm5 : ∀ i, i < no → (gQ G mn i).2.2.1 ≤ 5 := fun i hi => (hG.2.2 i (by omega)).2
  refine xs_f 2854 r_286_2853 rfl ?_
  refine xs_f 2855 r_286_2854 rfl ?_
  refine xs_call (lv2 := [(0, _), (1, _)]) r_286_2855 rfl rfl (by decide) (xcan_3 rfl rfl) rfl ?_
  refine xs_f 1 r_285_0 rfl ?_
  refine xs_f 2 r_285_1 rfl ?_
  refine xs_f 3 r_285_2 rfl ?_
  refine xs_call (lv2 := [(0, _)]) r_285_3 rfl rfl (by decide) (xcan_0 rfl rfl (by first | assumption | exact xup_s | exact o0 | exact M9.1 | (refine (xup_n (by omega)).trans ?_; first | assumption | exact xup_s | exact o0 | exact M9.1) | (refine (xup_n (by omega)).trans ((xup_n (by omega)).trans ?_); first | assumption | exact xup_s | exact o0 | exact M9.1) | (refine (xup_n (by omega)).trans ((xup_n (by omega)).trans ((xup_n (by omega)).trans ?_)); first | assumption | exact xup_s | exact o0 | exact M9.1)) (by rfl)) rfl (e_134 hX hS (fun z9 => ?_) (fun z9 f8 X8 S8 y8 => ?_))
  · have zM : (1 : Nat) = 1 := rfl
    have X8 := hX
    have S8 := hS
    have T8 : ∃ p cc nu, TxP h.1 804 tn p cc Bu nu := ⟨_, _, _, hT⟩
    have e8 : ∀ x, (((794 ≤ x ∧ x < 804) ∨ 807 ≤ x)) → h.1 x = h.1 x := fun _ _ => rfl
    have X9 := X8
    have S9 := S8
    have T9 := T8
    have O9 : LA (xbump (h.1, h.2)).1 818 1 w0 := hO.fr (e8 818 (by omega))
    have e9 : ∀ x, (((794 ≤ x ∧ x < 804) ∨ 807 ≤ x)) → x ≠ 818 → (xbump (h.1, h.2)).1 x = h.1 x := fun x h1 h2 => e8 x h1
    have M9 := hM.fr (fun x z1 z2 => e9 x (by omega) (by omega))
    have B9 : (xbump (h.1, h.2)).2 = h.2 ∨ (xbump (h.1, h.2)).2 = (xbump h).2 := Or.inr rfl
    refine xK_c (lv2 := [(0, _), (1, _)]) rfl rfl rfl rfl ?_
    refine xs_f 13 r_285_12 rfl ?_
    refine xs_ret r_285_13 rfl ?_
    refine xK_v rfl ?_
    refine xs_f 2860 (lv2 := [(6, _), (0, _), (1, _), (2, _), (3, _), (4, _), (5, _)]) r_286_2858 rfl ?_
    refine xs_f 2861 r_286_2860 rfl ?_
    refine xs_call (lv2 := [(0, _)]) r_286_2861 rfl rfl (by decide) (xcan_0 rfl rfl M9.1 (by rfl)) rfl (m_242 M9 hG (by omega) h8 (sb := sv) rfl (fun hc f2 M2 y2 => ?_) (fun hc => absurd (z9.symm.trans hc) (by decide)))
    refine xK_v rfl ?_
    refine xs_f 2866 (lv2 := [(7, _), (6, _), (0, _), (1, _), (2, _), (3, _), (4, _), (5, _)]) r_286_2864 rfl ?_
    refine xs_f 2867 r_286_2866 rfl ?_
    refine xs_call (lv2 := [(0, _)]) r_286_2867 rfl rfl (by decide) (xcan_0 rfl rfl M2.1 (by rfl)) rfl ?_
    refine xs_f 1 r_149_0 rfl ?_
    refine xs_get 4 r_149_1 rfl rfl M2.1 (by rfl) ?_
    refine xs_ret r_149_4 rfl ?_
    refine xK_v rfl ?_
    refine xs_f 2872 r_286_2870 rfl ?_
    refine xs_f 2877 r_286_2872 rfl ?_
    refine xs_f 2879 r_286_2877 rfl ?_
    refine xs_f 2894 r_286_2879 rfl ?_
    refine xs_f 2897 r_286_2894 rfl ?_
    obtain ⟨p9, c9, n9, t9⟩ := T9
    exact xP_lv [(0, .ref 12), (1, .ref 32), (2, .ref 809), (3, .ref 818), (4, .ref 819), (5, .int (nI i))] rfl ⟨rfl, rfl, rfl, rfl, rfl, rfl, trivial⟩ (k _ (hP.p (h2 := (f2, _)) (X9.fr (fun x hx => y2 x (by omega))) (S9.fr (fun x z1 z2 => y2 x (by omega))) ⟨p9, c9, n9, t9.fr (fun x z1 z2 => y2 x (by omega))⟩ ⟨_, _, _, _, _, _, M2⟩ ⟨_, O9.fr (y2 _ (by omega))⟩ (fun x hx => (y2 x (by omega)).trans (e9 x (by omega) (by omega))) B9 (by omega) (by omega) (by omega)))
  · have q9 : Sv 1 = Sv 1 := rfl
    have T8 : ∃ p cc nu, TxP f8 804 tn p cc Bu nu := ⟨_, _, _, hT.fr (fun x z1 z2 => y8 x (by omega))⟩
    have e8 : ∀ x, (((794 ≤ x ∧ x < 804) ∨ 807 ≤ x)) → f8 x = h.1 x := fun x h1 => y8 x (by omega)
    refine xK_v rfl ?_
    refine xs_f 7 r_285_6 rfl ?_
    refine xs_astL 8 r_285_7 (fun _ _ => rfl) rfl rfl rfl (j := 0) (nI_k 0) (hO.fr (e8 818 (by omega))) (by omega) (fun f1 O9 y1 => ?_)
    have X9 := X8.fr (g := f1) (fun x hx => y1 x (by omega))
    have S9 := S8.fr (g := f1) (fun x z1 z2 => y1 x (by omega))
    obtain ⟨p8, c8, n8, t8⟩ := T8
    have T9 : ∃ p cc nu, TxP f1 804 _ p cc _ nu := ⟨p8, c8, n8, t8.fr (fun x z1 z2 => y1 x (by omega))⟩
    have e9 : ∀ x, (((794 ≤ x ∧ x < 804) ∨ 807 ≤ x)) → x ≠ 818 → f1 x = h.1 x := fun x h1 h2 => (y1 x (by omega)).trans (e8 x h1)
    have M9 := hM.fr (fun x z1 z2 => e9 x (by omega) (by omega))
    have B9 : h.2 = h.2 ∨ h.2 = (xbump h).2 := Or.inl rfl
    refine xs_f 14 r_285_8 rfl ?_
    refine xs_f 15 r_285_14 rfl ?_
    refine xs_ret r_285_15 rfl ?_
    refine xK_v rfl ?_
    refine xs_f 2860 (lv2 := [(6, _), (0, _), (1, _), (2, _), (3, _), (4, _), (5, _)]) r_286_2858 rfl ?_
    refine xs_f 2861 r_286_2860 rfl ?_
    refine xs_call (lv2 := [(0, _)]) r_286_2861 rfl rfl (by decide) (xcan_0 rfl rfl M9.1 (by rfl)) rfl (m_242 M9 hG (by omega) h8 (sb := sv) rfl (fun hc => absurd (z9.symm.trans hc) (by decide)) (fun hc f2 M2 y2 => ?_))
    have M2 : MdP f2 809 Sv B H Sv Bu Le Mo Pa (nI 0) (bI sv) (nI tn) ea fa (nI on) 0 sp wr := M2
    refine xK_v rfl ?_
    refine xs_f 2866 (lv2 := [(7, _), (6, _), (0, _), (1, _), (2, _), (3, _), (4, _), (5, _)]) r_286_2864 rfl ?_
    refine xs_f 2867 r_286_2866 rfl ?_
    refine xs_call (lv2 := [(0, _)]) r_286_2867 rfl rfl (by decide) (xcan_0 rfl rfl M2.1 (by rfl)) rfl ?_
    refine xs_f 1 r_149_0 rfl ?_
    refine xs_get 4 r_149_1 rfl rfl M2.1 (by rfl) ?_
    refine xs_ret r_149_4 rfl ?_
    refine xK_v rfl ?_
    refine xs_f 2872 r_286_2870 rfl ?_
    refine xs_f 2877 r_286_2872 rfl ?_
    refine xs_f 2879 r_286_2877 rfl ?_
    refine xs_f 2882 r_286_2879 rfl ?_
    refine xs_f 2883 r_286_2882 rfl ?_
    refine xs_f 2884 r_286_2883 rfl ?_
    refine xs_aldL 2885 r_286_2884 (fun _ _ => rfl) rfl rfl rfl (j := 0) (nI_k 0) (O9.fr (y2 _ (by omega))) (by omega) ?_
    rw [xw_s]
    refine xs_f 2887 r_286_2885 rfl ?_
    refine xs_f 2888 r_286_2887 rfl ?_
    refine xs_f 2889 r_286_2888 rfl ?_
    refine xs_if 2894 2892 r_286_2889 rfl (fun hl => ?_) (fun hl => ?_)
    · refine xs_f 2897 r_286_2894 rfl ?_
      obtain ⟨p9, c9, n9, t9⟩ := T9
      exact xP_lv [(0, .ref 12), (1, .ref 32), (2, .ref 809), (3, .ref 818), (4, .ref 819), (5, .int (nI i))] rfl ⟨rfl, rfl, rfl, rfl, rfl, rfl, trivial⟩ (k _ (hP.p (h2 := (f2, _)) (X9.fr (fun x hx => y2 x (by omega))) (S9.fr (fun x z1 z2 => y2 x (by omega))) ⟨p9, c9, n9, t9.fr (fun x z1 z2 => y2 x (by omega))⟩ ⟨_, _, _, _, _, _, M2⟩ ⟨_, O9.fr (y2 _ (by omega))⟩ (fun x hx => (y2 x (by omega)).trans (e9 x (by omega) (by omega))) B9 (by omega) (by omega) (by omega)))
    · exact absurd (by rw [q9]; exact lg_cmp_r _) hl

