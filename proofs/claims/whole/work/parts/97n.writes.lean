/-! the law: means, shares, what is written -/
theorem lw_32 {S : XSc} {d : Nat} {h : XH} {Q : XO → XH → Prop} {i c : Nat} (hi : i + 7 ≤ S.1) (hL : S.1 ≤ 3584) (hc : c ≤ 511) (hI : LwI h c) (k : ∀ h2, LwI h2 (c + 1) → xP S (d + 14) 286 2897 [(0, .ref 12), (1, .ref 32), (2, .ref 809), (3, .ref 818), (4, .ref 819), (5, .int (nI i))] [] h2 Q) : xP S (d + 14) 286 1989 [(0, .ref 12), (1, .ref 32), (2, .ref 809), (3, .ref 818), (4, .ref 819), (5, .int (nI i))] [] h Q := by
  obtain ⟨H, Sv, pos, ch, sv, K, ea, fa, G, tn, Bu, on, Le, hP⟩ := hI
  obtain ⟨hX, hS, ⟨W, lo, hi2, hC⟩, ⟨p0, cc0, nu0, hT⟩, hZ, ⟨B, Mo, Pa, th, sp, wr, hM⟩, ⟨w0, hO⟩, hD, ⟨hK, h8, ht, hon⟩, hcn⟩ := id hP
  obtain ⟨o0, hHi, hSv, G8, hG8⟩ := id hX
  obtain ⟨mn, np, no, nn, N, sc, ho, TS, TH, tr, pl, q, s, R, hB, hr, hk, hN, hs⟩ := id hS
  obtain ⟨hG, ⟨r2, r3, r4⟩, r5, r6, r7, r8⟩ := id hr
  obtain ⟨m0, g0, b0, H0, S0, U0, L0, M0, A0⟩ := id hM
  have np5 := hG.1.2
  have no6 := hG.2.1.2
  have mm5 : ∀ i, i < no → (gQ G mn i).2.2.1 ≤ 5 := fun i hi => (hG.2.2 i (by omega)).2
  
  refine xs_f 1990 r_286_1989 rfl ?_
  refine xs_f 1991 r_286_1990 rfl ?_
  refine xs_f 1993 r_286_1991 rfl ?_
  refine xs_f 1994 r_286_1993 rfl ?_
  refine xs_f 1995 r_286_1994 rfl ?_
  refine xs_ald 1996 0 r_286_1995 (fun _ _ => rfl) rfl rfl rfl (j := (i + 1)) (nI_addE rfl (nI_k 1)) (xarr_r rfl rfl) rfl (by show _ < S.1; omega) (by show S.1 ≤ 65536; omega) rfl ?_
  refine xs_f 1998 r_286_1996 rfl ?_
  refine xs_call (lv2 := [(0, _), (1, _), (2, _)]) r_286_1998 rfl rfl (by decide) (xcan_3 rfl rfl) rfl ?_
  refine xs_f 1 r_270_0 rfl ?_
  refine xs_f 2 r_270_1 rfl ?_
  refine xs_f 3 r_270_2 rfl ?_
  refine xs_f 4 r_270_3 rfl ?_
  refine xs_call (lv2 := [(0, _), (1, _)]) r_270_4 rfl rfl (by decide) (xcan_0 rfl rfl (by first | assumption | exact xup_s | exact o0 | exact m9 | (refine (xup_n (by omega)).trans ?_; first | assumption | exact xup_s | exact o0 | exact m9) | (refine (xup_n (by omega)).trans ((xup_n (by omega)).trans ?_); first | assumption | exact xup_s | exact o0 | exact m9) | (refine (xup_n (by omega)).trans ((xup_n (by omega)).trans ((xup_n (by omega)).trans ?_)); first | assumption | exact xup_s | exact o0 | exact m9)) (by rfl)) rfl (e_116 o0 hB (by omega) (fun z1 => ?_) (fun z1 z2 => ?_) (fun z1 z2 => ?_))
  · have z0 := z1
    have e9 : ∀ x, x ≠ 819 → (xbump h).1 x = h.1 x := fun _ _ => rfl
    have D9 : DA (xbump h).1 819 1 := hD
    have m9 := (e9 809 (by omega)).trans m0
    have g9 := g0.fr (e9 _ (by omega))
    have B9 : (xbump h).2 = h.2 ∨ (xbump h).2 = (xbump h).2 := Or.inr rfl
    refine xK_c (lv2 := [(0, _), (1, _), (2, _)]) rfl rfl rfl rfl ?_
    refine xs_f 13 r_270_12 rfl ?_
    refine xs_ret r_270_13 rfl ?_
    refine xK_v rfl ?_
    refine xs_f 2003 (lv2 := [(6, _), (0, _), (1, _), (2, _), (3, _), (4, _), (5, _)]) r_286_2001 rfl ?_
    refine xs_f 2004 r_286_2003 rfl ?_
    refine xs_f 2005 r_286_2004 rfl ?_
    refine xs_f 2007 r_286_2005 rfl ?_
    refine xs_f 2008 r_286_2007 rfl ?_
    refine xs_f 2009 r_286_2008 rfl ?_
    refine xs_ald 2010 0 r_286_2009 (fun _ _ => rfl) rfl rfl rfl (j := (i + 1)) (nI_addE rfl (nI_k 1)) (xarr_r rfl rfl) rfl (by show _ < S.1; omega) (by show S.1 ≤ 65536; omega) rfl ?_
    refine xs_call (lv2 := [(0, _), (1, _)]) r_286_2010 rfl rfl (by decide) (xcan_0 rfl rfl (by first | assumption | exact o0 | exact m9) (by rfl)) rfl (m_209 m9 g9 hG (by omega) (fun _ f2 x2 y2 => ?_) (fun y => absurd y z1) (fun y => absurd y z1))
    refine xK_v rfl ?_
    refine xs_f 2015 (lv2 := [(7, _), (6, _), (0, _), (1, _), (2, _), (3, _), (4, _), (5, _)]) r_286_2013 rfl ?_
    refine xs_f 2016 r_286_2015 rfl ?_
    refine xs_call (lv2 := [(0, _)]) r_286_2016 rfl rfl (by decide) (xcan_0 rfl rfl x2 (by rfl)) rfl ?_
    refine xs_f 1 r_149_0 rfl ?_
    refine xs_get 4 r_149_1 rfl rfl x2 (by rfl) ?_
    refine xs_ret r_149_4 rfl ?_
    refine xK_v rfl ?_
    refine xs_f 2021 r_286_2019 rfl ?_
    refine xs_f 2026 r_286_2021 rfl ?_
    refine xs_f 2028 r_286_2026 rfl ?_
    refine xs_f 2063 r_286_2028 rfl ?_
    refine xs_f 2897 r_286_2063 rfl ?_
    exact xP_lv [(0, .ref 12), (1, .ref 32), (2, .ref 809), (3, .ref 818), (4, .ref 819), (5, .int (nI i))] rfl ⟨rfl, rfl, rfl, rfl, rfl, rfl, trivial⟩ (k _ (hP.q (h2 := (f2, _)) (fun x h1 h2 h3 h4 => (y2 x (by omega)).trans (e9 x (by omega))) ⟨_, _, _, x2⟩ ⟨_, hO.fr ((y2 _ (by omega)).trans (e9 _ (by omega)))⟩ (D9.fr (y2 _ (by omega))) ⟨_, _, _, hC.fr (fun x h1 h2 => (y2 x (by omega)).trans (e9 x (by omega)))⟩ B9))
  · have zz := (r6 _ (isPl_i z1 (by omega))).sz.symm.trans z2
    have e9 : ∀ x, x ≠ 819 → (xbump h).1 x = h.1 x := fun _ _ => rfl
    have D9 : DA (xbump h).1 819 1 := hD
    have m9 := (e9 809 (by omega)).trans m0
    have g9 := g0.fr (e9 _ (by omega))
    have B9 : (xbump h).2 = h.2 ∨ (xbump h).2 = (xbump h).2 := Or.inr rfl
    refine xK_c (lv2 := [(0, _), (1, _), (2, _)]) rfl rfl rfl rfl ?_
    refine xs_f 16 r_270_15 rfl ?_
    refine xs_ret r_270_16 rfl ?_
    refine xK_v rfl ?_
    refine xs_f 2003 (lv2 := [(6, _), (0, _), (1, _), (2, _), (3, _), (4, _), (5, _)]) r_286_2001 rfl ?_
    refine xs_f 2004 r_286_2003 rfl ?_
    refine xs_f 2005 r_286_2004 rfl ?_
    refine xs_f 2007 r_286_2005 rfl ?_
    refine xs_f 2008 r_286_2007 rfl ?_
    refine xs_f 2009 r_286_2008 rfl ?_
    refine xs_ald 2010 0 r_286_2009 (fun _ _ => rfl) rfl rfl rfl (j := (i + 1)) (nI_addE rfl (nI_k 1)) (xarr_r rfl rfl) rfl (by show _ < S.1; omega) (by show S.1 ≤ 65536; omega) rfl ?_
    refine xs_call (lv2 := [(0, _), (1, _)]) r_286_2010 rfl rfl (by decide) (xcan_0 rfl rfl (by first | assumption | exact o0 | exact m9) (by rfl)) rfl (m_209 m9 g9 hG (by omega) (fun y => absurd z1 y) (fun _ _ f2 x2 y2 => ?_) (fun _ y => absurd zz y))
    refine xK_v rfl ?_
    refine xs_f 2015 (lv2 := [(7, _), (6, _), (0, _), (1, _), (2, _), (3, _), (4, _), (5, _)]) r_286_2013 rfl ?_
    refine xs_f 2016 r_286_2015 rfl ?_
    refine xs_call (lv2 := [(0, _)]) r_286_2016 rfl rfl (by decide) (xcan_0 rfl rfl x2 (by rfl)) rfl ?_
    refine xs_f 1 r_149_0 rfl ?_
    refine xs_get 4 r_149_1 rfl rfl x2 (by rfl) ?_
    refine xs_ret r_149_4 rfl ?_
    refine xK_v rfl ?_
    refine xs_f 2021 r_286_2019 rfl ?_
    refine xs_f 2026 r_286_2021 rfl ?_
    refine xs_f 2028 r_286_2026 rfl ?_
    refine xs_f 2063 r_286_2028 rfl ?_
    refine xs_f 2897 r_286_2063 rfl ?_
    exact xP_lv [(0, .ref 12), (1, .ref 32), (2, .ref 809), (3, .ref 818), (4, .ref 819), (5, .int (nI i))] rfl ⟨rfl, rfl, rfl, rfl, rfl, rfl, trivial⟩ (k _ (hP.q (h2 := (f2, _)) (fun x h1 h2 h3 h4 => (y2 x (by omega)).trans (e9 x (by omega))) ⟨_, _, _, x2⟩ ⟨_, hO.fr ((y2 _ (by omega)).trans (e9 _ (by omega)))⟩ (D9.fr (y2 _ (by omega))) ⟨_, _, _, hC.fr (fun x h1 h2 => (y2 x (by omega)).trans (e9 x (by omega)))⟩ B9))
  · have ep := r6 _ (isPl_i z1 (by omega))
    have zz : szP (gP G ((S.2 (i + 1))).toNatClampNeg) ≠ 0 := fun y => z2 (ep.sz.trans y)
    have q9 : (FP.ddiv (FP.i2d (pl ((S.2 (i + 1))).toNatClampNeg).2.1) (FP.i2d (szP (pl ((S.2 (i + 1))).toNatClampNeg)))) = (FP.ddiv (FP.i2d (gP G ((S.2 (i + 1))).toNatClampNeg).2.1) (FP.i2d (szP (gP G ((S.2 (i + 1))).toNatClampNeg)))) := by rw [ep.2.1, ep.sz]
    rw [q9]
    refine xK_v rfl ?_
    refine xs_astD 8 r_270_7 rfl hD (fun f1 V9 y1 => ?_)
    have e9 : ∀ x, x ≠ 819 → f1 x = h.1 x := fun x hx => y1 x (by omega)
    have D9 := V9.A
    have m9 := (e9 809 (by omega)).trans m0
    have g9 := g0.fr (e9 _ (by omega))
    have B9 : h.2 = h.2 ∨ h.2 = (xbump h).2 := Or.inl rfl
    refine xs_f 17 r_270_8 rfl ?_
    refine xs_f 18 r_270_17 rfl ?_
    refine xs_ret r_270_18 rfl ?_
    refine xK_v rfl ?_
    refine xs_f 2003 (lv2 := [(6, _), (0, _), (1, _), (2, _), (3, _), (4, _), (5, _)]) r_286_2001 rfl ?_
    refine xs_f 2004 r_286_2003 rfl ?_
    refine xs_f 2005 r_286_2004 rfl ?_
    refine xs_f 2007 r_286_2005 rfl ?_
    refine xs_f 2008 r_286_2007 rfl ?_
    refine xs_f 2009 r_286_2008 rfl ?_
    refine xs_ald 2010 0 r_286_2009 (fun _ _ => rfl) rfl rfl rfl (j := (i + 1)) (nI_addE rfl (nI_k 1)) (xarr_r rfl rfl) rfl (by show _ < S.1; omega) (by show S.1 ≤ 65536; omega) rfl ?_
    refine xs_call (lv2 := [(0, _), (1, _)]) r_286_2010 rfl rfl (by decide) (xcan_0 rfl rfl (by first | assumption | exact o0 | exact m9) (by rfl)) rfl (m_209 m9 g9 hG (by omega) (fun y => absurd z1 y) (fun _ y => absurd y zz) (fun _ _ f2 x2 y2 => ?_))
    refine xK_v rfl ?_
    refine xs_f 2015 (lv2 := [(7, _), (6, _), (0, _), (1, _), (2, _), (3, _), (4, _), (5, _)]) r_286_2013 rfl ?_
    refine xs_f 2016 r_286_2015 rfl ?_
    refine xs_call (lv2 := [(0, _)]) r_286_2016 rfl rfl (by decide) (xcan_0 rfl rfl x2 (by rfl)) rfl ?_
    refine xs_f 1 r_149_0 rfl ?_
    refine xs_get 4 r_149_1 rfl rfl x2 (by rfl) ?_
    refine xs_ret r_149_4 rfl ?_
    refine xK_v rfl ?_
    refine xs_f 2021 r_286_2019 rfl ?_
    refine xs_f 2026 r_286_2021 rfl ?_
    refine xs_f 2028 r_286_2026 rfl ?_
    refine xs_f 2031 r_286_2028 rfl ?_
    refine xs_f 2033 r_286_2031 rfl ?_
    refine xs_f 2034 r_286_2033 rfl ?_
    refine xs_aldD 2035 r_286_2034 rfl (V9.fr (y2 _ (by omega))) (by omega) ?_
    refine xs_f 2037 r_286_2035 rfl ?_
    refine xs_f 2038 r_286_2037 rfl ?_
    refine xs_if 2063 2041 r_286_2038 rfl (fun hd => ?_) (fun hd => ?_)
    · refine xs_f 2897 r_286_2063 rfl ?_
      exact xP_lv [(0, .ref 12), (1, .ref 32), (2, .ref 809), (3, .ref 818), (4, .ref 819), (5, .int (nI i))] rfl ⟨rfl, rfl, rfl, rfl, rfl, rfl, trivial⟩ (k _ (hP.q (h2 := (f2, _)) (fun x h1 h2 h3 h4 => (y2 x (by omega)).trans (e9 x (by omega))) ⟨_, _, _, x2⟩ ⟨_, hO.fr ((y2 _ (by omega)).trans (e9 _ (by omega)))⟩ (D9.fr (y2 _ (by omega))) ⟨_, _, _, hC.fr (fun x h1 h2 => (y2 x (by omega)).trans (e9 x (by omega)))⟩ B9))
    · exact absurd (dc_self (dd_ok _ _ zz)) hd

theorem lw_39 {S : XSc} {d : Nat} {h : XH} {Q : XO → XH → Prop} {i c : Nat} (hi : i + 7 ≤ S.1) (hL : S.1 ≤ 3584) (hc : c ≤ 511) (hI : LwI h c) (k : ∀ h2, LwI h2 (c + 1) → xP S (d + 14) 286 2897 [(0, .ref 12), (1, .ref 32), (2, .ref 809), (3, .ref 818), (4, .ref 819), (5, .int (nI i))] [] h2 Q) : xP S (d + 14) 286 2390 [(0, .ref 12), (1, .ref 32), (2, .ref 809), (3, .ref 818), (4, .ref 819), (5, .int (nI i))] [] h Q := by
  obtain ⟨H, Sv, pos, ch, sv, K, ea, fa, G, tn, Bu, on, Le, hP⟩ := hI
  obtain ⟨hX, hS, ⟨W, lo, hi2, hC⟩, ⟨p0, cc0, nu0, hT⟩, hZ, ⟨B, Mo, Pa, th, sp, wr, hM⟩, ⟨w0, hO⟩, hD, ⟨hK, h8, ht, hon⟩, hcn⟩ := id hP
  obtain ⟨o0, hHi, hSv, G8, hG8⟩ := id hX
  obtain ⟨mn, np, no, nn, N, sc, ho, TS, TH, tr, pl, q, s, R, hB, hr, hk, hN, hs⟩ := id hS
  obtain ⟨hG, ⟨r2, r3, r4⟩, r5, r6, r7, r8⟩ := id hr
  obtain ⟨m0, g0, b0, H0, S0, U0, L0, M0, A0⟩ := id hM
  have np5 := hG.1.2
  have no6 := hG.2.1.2
  have mm5 : ∀ i, i < no → (gQ G mn i).2.2.1 ≤ 5 := fun i hi => (hG.2.2 i (by omega)).2
  have bs := binS_of (G := G) hk r6
  refine xs_f 2391 r_286_2390 rfl ?_
  refine xs_f 2392 r_286_2391 rfl ?_
  refine xs_f 2394 r_286_2392 rfl ?_
  refine xs_f 2395 r_286_2394 rfl ?_
  refine xs_f 2396 r_286_2395 rfl ?_
  refine xs_ald 2397 0 r_286_2396 (fun _ _ => rfl) rfl rfl rfl (j := (i + 1)) (nI_addE rfl (nI_k 1)) (xarr_r rfl rfl) rfl (by show _ < S.1; omega) (by show S.1 ≤ 65536; omega) rfl ?_
  refine xs_f 2399 r_286_2397 rfl ?_
  refine xs_call (lv2 := [(0, _), (1, _), (2, _)]) r_286_2399 rfl rfl (by decide) (xcan_3 rfl rfl) rfl ?_
  refine xs_f 1 r_277_0 rfl ?_
  refine xs_f 2 r_277_1 rfl ?_
  refine xs_f 3 r_277_2 rfl ?_
  refine xs_f 4 r_277_3 rfl ?_
  refine xs_call (lv2 := [(0, _), (1, _)]) r_277_4 rfl rfl (by decide) (xcan_0 rfl rfl (by first | assumption | exact xup_s | exact o0 | exact m9 | (refine (xup_n (by omega)).trans ?_; first | assumption | exact xup_s | exact o0 | exact m9) | (refine (xup_n (by omega)).trans ((xup_n (by omega)).trans ?_); first | assumption | exact xup_s | exact o0 | exact m9) | (refine (xup_n (by omega)).trans ((xup_n (by omega)).trans ((xup_n (by omega)).trans ?_)); first | assumption | exact xup_s | exact o0 | exact m9)) (by rfl)) rfl (e_123 o0 hB (by omega) (fun z1 => ?_) (fun z1 z2 => ?_) (fun z1 z2 => ?_))
  · have z0 := z1
    have e9 : ∀ x, x ≠ 819 → (xbump h).1 x = h.1 x := fun _ _ => rfl
    have D9 : DA (xbump h).1 819 1 := hD
    have m9 := (e9 809 (by omega)).trans m0
    have g9 := g0.fr (e9 _ (by omega))
    have B9 : (xbump h).2 = h.2 ∨ (xbump h).2 = (xbump h).2 := Or.inr rfl
    refine xK_c (lv2 := [(0, _), (1, _), (2, _)]) rfl rfl rfl rfl ?_
    refine xs_f 14 r_277_13 rfl ?_
    refine xs_ret r_277_14 rfl ?_
    refine xK_v rfl ?_
    refine xs_f 2404 (lv2 := [(6, _), (0, _), (1, _), (2, _), (3, _), (4, _), (5, _)]) r_286_2402 rfl ?_
    refine xs_f 2405 r_286_2404 rfl ?_
    refine xs_f 2406 r_286_2405 rfl ?_
    refine xs_f 2408 r_286_2406 rfl ?_
    refine xs_f 2409 r_286_2408 rfl ?_
    refine xs_f 2410 r_286_2409 rfl ?_
    refine xs_ald 2411 0 r_286_2410 (fun _ _ => rfl) rfl rfl rfl (j := (i + 1)) (nI_addE rfl (nI_k 1)) (xarr_r rfl rfl) rfl (by show _ < S.1; omega) (by show S.1 ≤ 65536; omega) rfl ?_
    refine xs_call (lv2 := [(0, _), (1, _)]) r_286_2411 rfl rfl (by decide) (xcan_0 rfl rfl (by first | assumption | exact o0 | exact m9) (by rfl)) rfl (m_219 m9 g9 hG (by omega) (fun _ f2 x2 y2 => ?_) (fun y => absurd y z1) (fun y => absurd y z1))
    refine xK_v rfl ?_
    refine xs_f 2416 (lv2 := [(7, _), (6, _), (0, _), (1, _), (2, _), (3, _), (4, _), (5, _)]) r_286_2414 rfl ?_
    refine xs_f 2417 r_286_2416 rfl ?_
    refine xs_call (lv2 := [(0, _)]) r_286_2417 rfl rfl (by decide) (xcan_0 rfl rfl x2 (by rfl)) rfl ?_
    refine xs_f 1 r_149_0 rfl ?_
    refine xs_get 4 r_149_1 rfl rfl x2 (by rfl) ?_
    refine xs_ret r_149_4 rfl ?_
    refine xK_v rfl ?_
    refine xs_f 2422 r_286_2420 rfl ?_
    refine xs_f 2427 r_286_2422 rfl ?_
    refine xs_f 2429 r_286_2427 rfl ?_
    refine xs_f 2465 r_286_2429 rfl ?_
    refine xs_f 2897 r_286_2465 rfl ?_
    exact xP_lv [(0, .ref 12), (1, .ref 32), (2, .ref 809), (3, .ref 818), (4, .ref 819), (5, .int (nI i))] rfl ⟨rfl, rfl, rfl, rfl, rfl, rfl, trivial⟩ (k _ (hP.q (h2 := (f2, _)) (fun x h1 h2 h3 h4 => (y2 x (by omega)).trans (e9 x (by omega))) ⟨_, _, _, x2⟩ ⟨_, hO.fr ((y2 _ (by omega)).trans (e9 _ (by omega)))⟩ (D9.fr (y2 _ (by omega))) ⟨_, _, _, hC.fr (fun x h1 h2 => (y2 x (by omega)).trans (e9 x (by omega)))⟩ B9))
  · obtain ⟨c1, c9⟩ := xconf_i z1
    have zz := (bs.1 _ c1 c9).symm.trans z2
    have e9 : ∀ x, x ≠ 819 → (xbump h).1 x = h.1 x := fun _ _ => rfl
    have D9 : DA (xbump h).1 819 1 := hD
    have m9 := (e9 809 (by omega)).trans m0
    have g9 := g0.fr (e9 _ (by omega))
    have B9 : (xbump h).2 = h.2 ∨ (xbump h).2 = (xbump h).2 := Or.inr rfl
    refine xK_c (lv2 := [(0, _), (1, _), (2, _)]) rfl rfl rfl rfl ?_
    refine xs_f 17 r_277_16 rfl ?_
    refine xs_ret r_277_17 rfl ?_
    refine xK_v rfl ?_
    refine xs_f 2404 (lv2 := [(6, _), (0, _), (1, _), (2, _), (3, _), (4, _), (5, _)]) r_286_2402 rfl ?_
    refine xs_f 2405 r_286_2404 rfl ?_
    refine xs_f 2406 r_286_2405 rfl ?_
    refine xs_f 2408 r_286_2406 rfl ?_
    refine xs_f 2409 r_286_2408 rfl ?_
    refine xs_f 2410 r_286_2409 rfl ?_
    refine xs_ald 2411 0 r_286_2410 (fun _ _ => rfl) rfl rfl rfl (j := (i + 1)) (nI_addE rfl (nI_k 1)) (xarr_r rfl rfl) rfl (by show _ < S.1; omega) (by show S.1 ≤ 65536; omega) rfl ?_
    refine xs_call (lv2 := [(0, _), (1, _)]) r_286_2411 rfl rfl (by decide) (xcan_0 rfl rfl (by first | assumption | exact o0 | exact m9) (by rfl)) rfl (m_219 m9 g9 hG (by omega) (fun y => absurd z1 y) (fun _ _ f2 x2 y2 => ?_) (fun _ y => absurd zz y))
    refine xK_v rfl ?_
    refine xs_f 2416 (lv2 := [(7, _), (6, _), (0, _), (1, _), (2, _), (3, _), (4, _), (5, _)]) r_286_2414 rfl ?_
    refine xs_f 2417 r_286_2416 rfl ?_
    refine xs_call (lv2 := [(0, _)]) r_286_2417 rfl rfl (by decide) (xcan_0 rfl rfl x2 (by rfl)) rfl ?_
    refine xs_f 1 r_149_0 rfl ?_
    refine xs_get 4 r_149_1 rfl rfl x2 (by rfl) ?_
    refine xs_ret r_149_4 rfl ?_
    refine xK_v rfl ?_
    refine xs_f 2422 r_286_2420 rfl ?_
    refine xs_f 2427 r_286_2422 rfl ?_
    refine xs_f 2429 r_286_2427 rfl ?_
    refine xs_f 2465 r_286_2429 rfl ?_
    refine xs_f 2897 r_286_2465 rfl ?_
    exact xP_lv [(0, .ref 12), (1, .ref 32), (2, .ref 809), (3, .ref 818), (4, .ref 819), (5, .int (nI i))] rfl ⟨rfl, rfl, rfl, rfl, rfl, rfl, trivial⟩ (k _ (hP.q (h2 := (f2, _)) (fun x h1 h2 h3 h4 => (y2 x (by omega)).trans (e9 x (by omega))) ⟨_, _, _, x2⟩ ⟨_, hO.fr ((y2 _ (by omega)).trans (e9 _ (by omega)))⟩ (D9.fr (y2 _ (by omega))) ⟨_, _, _, hC.fr (fun x h1 h2 => (y2 x (by omega)).trans (e9 x (by omega)))⟩ B9))
  · obtain ⟨c1, c9⟩ := xconf_i z1
    have zz : (xsum (fun x9 => G (30 + 9 * x9 + ((S.2 (i + 1))).toNatClampNeg - 1)) np) ≠ 0 := fun y => z2 ((bs.1 _ c1 c9).trans y)
    rw [bs.1 _ c1 c9, bs.2.1 _ c1 c9]
    refine xK_v rfl ?_
    refine xs_f2d 8 r_277_7 rfl (ff_ok _ _ zz) ?_
    refine xs_astD 9 r_277_8 rfl hD (fun f1 V9 y1 => ?_)
    have e9 : ∀ x, x ≠ 819 → f1 x = h.1 x := fun x hx => y1 x (by omega)
    have D9 := V9.A
    have m9 := (e9 809 (by omega)).trans m0
    have g9 := g0.fr (e9 _ (by omega))
    have B9 : h.2 = h.2 ∨ h.2 = (xbump h).2 := Or.inl rfl
    refine xs_f 18 r_277_9 rfl ?_
    refine xs_f 19 r_277_18 rfl ?_
    refine xs_ret r_277_19 rfl ?_
    refine xK_v rfl ?_
    refine xs_f 2404 (lv2 := [(6, _), (0, _), (1, _), (2, _), (3, _), (4, _), (5, _)]) r_286_2402 rfl ?_
    refine xs_f 2405 r_286_2404 rfl ?_
    refine xs_f 2406 r_286_2405 rfl ?_
    refine xs_f 2408 r_286_2406 rfl ?_
    refine xs_f 2409 r_286_2408 rfl ?_
    refine xs_f 2410 r_286_2409 rfl ?_
    refine xs_ald 2411 0 r_286_2410 (fun _ _ => rfl) rfl rfl rfl (j := (i + 1)) (nI_addE rfl (nI_k 1)) (xarr_r rfl rfl) rfl (by show _ < S.1; omega) (by show S.1 ≤ 65536; omega) rfl ?_
    refine xs_call (lv2 := [(0, _), (1, _)]) r_286_2411 rfl rfl (by decide) (xcan_0 rfl rfl (by first | assumption | exact o0 | exact m9) (by rfl)) rfl (m_219 m9 g9 hG (by omega) (fun y => absurd z1 y) (fun _ y => absurd y zz) (fun _ _ f2 x2 y2 => ?_))
    refine xK_v rfl ?_
    refine xs_f 2416 (lv2 := [(7, _), (6, _), (0, _), (1, _), (2, _), (3, _), (4, _), (5, _)]) r_286_2414 rfl ?_
    refine xs_f 2417 r_286_2416 rfl ?_
    refine xs_call (lv2 := [(0, _)]) r_286_2417 rfl rfl (by decide) (xcan_0 rfl rfl x2 (by rfl)) rfl ?_
    refine xs_f 1 r_149_0 rfl ?_
    refine xs_get 4 r_149_1 rfl rfl x2 (by rfl) ?_
    refine xs_ret r_149_4 rfl ?_
    refine xK_v rfl ?_
    refine xs_f 2422 r_286_2420 rfl ?_
    refine xs_f 2427 r_286_2422 rfl ?_
    refine xs_f 2429 r_286_2427 rfl ?_
    refine xs_f 2432 r_286_2429 rfl ?_
    refine xs_f 2434 r_286_2432 rfl ?_
    refine xs_f 2435 r_286_2434 rfl ?_
    refine xs_aldD 2436 r_286_2435 rfl (V9.fr (y2 _ (by omega))) (by omega) ?_
    refine xs_f 2438 r_286_2436 rfl ?_
    refine xs_f2d 2439 r_286_2438 rfl (ff_ok _ _ zz) ?_
    refine xs_f 2440 r_286_2439 rfl ?_
    refine xs_if 2465 2443 r_286_2440 rfl (fun hd => ?_) (fun hd => ?_)
    · refine xs_f 2897 r_286_2465 rfl ?_
      exact xP_lv [(0, .ref 12), (1, .ref 32), (2, .ref 809), (3, .ref 818), (4, .ref 819), (5, .int (nI i))] rfl ⟨rfl, rfl, rfl, rfl, rfl, rfl, trivial⟩ (k _ (hP.q (h2 := (f2, _)) (fun x h1 h2 h3 h4 => (y2 x (by omega)).trans (e9 x (by omega))) ⟨_, _, _, x2⟩ ⟨_, hO.fr ((y2 _ (by omega)).trans (e9 _ (by omega)))⟩ (D9.fr (y2 _ (by omega))) ⟨_, _, _, hC.fr (fun x h1 h2 => (y2 x (by omega)).trans (e9 x (by omega)))⟩ B9))
    · exact absurd (dc_self (x := FP.f2d (FP.fdiv (FP.i2f (xsum (fun x9 => G (75 + 9 * x9 + ((S.2 (i + 1))).toNatClampNeg - 1)) np)) (FP.i2f (xsum (fun x9 => G (30 + 9 * x9 + ((S.2 (i + 1))).toNatClampNeg - 1)) np)))) (Jvm.Free.Fl.f2d_out (ff_ok _ _ zz))) hd

theorem lw_45 {S : XSc} {d : Nat} {h : XH} {Q : XO → XH → Prop} {i c : Nat} (hi : i + 7 ≤ S.1) (hL : S.1 ≤ 3584) (hc : c ≤ 511) (hI : LwI h c) (k : ∀ h2, LwI h2 (c + 1) → xP S (d + 14) 286 2897 [(0, .ref 12), (1, .ref 32), (2, .ref 809), (3, .ref 818), (4, .ref 819), (5, .int (nI i))] [] h2 Q) : xP S (d + 14) 286 2671 [(0, .ref 12), (1, .ref 32), (2, .ref 809), (3, .ref 818), (4, .ref 819), (5, .int (nI i))] [] h Q := by
  obtain ⟨H, Sv, pos, ch, sv, K, ea, fa, G, tn, Bu, on, Le, hP⟩ := hI
  obtain ⟨hX, hS, ⟨W, lo, hi2, hC⟩, ⟨p0, cc0, nu0, hT⟩, hZ, ⟨B, Mo, Pa, th, sp, wr, hM⟩, ⟨w0, hO⟩, hD, ⟨hK, h8_, ht, hon⟩, hcn⟩ := id hP
  obtain ⟨o0, hHi, hSv, G8, hG8⟩ := id hX
  obtain ⟨mn, np, no, nn, N, sc, ho, TS, TH, tr, pl, q, s, R, hB, hr, hk, hN, hs⟩ := id hS
  obtain ⟨hG, ⟨r2, r3, r4⟩, r5, r6, r7, r8⟩ := id hr
  obtain ⟨m0, g0, b0, H0, S0, U0, L0, M0, A0⟩ := id hM
  have np5 := hG.1.2
  have no6 := hG.2.1.2
  have mm5 : ∀ i, i < no → (gQ G mn i).2.2.1 ≤ 5 := fun i hi => (hG.2.2 i (by omega)).2
  have hNq : ∀ j, j < no → ∃ v, v < 1000 ∧ (q j).1 = nI v := fun j hj => by
    obtain ⟨-, ⟨v, hv, e⟩, -⟩ := hk.2.1 j hj
    exact ⟨v, by omega, e⟩
  have hWq : ∀ j, j < no → ∃ v, v < 1000 ∧ (q j).2.1 = nI v := fun j hj => by
    obtain ⟨-, -, ⟨v, h1, h3, e⟩, -⟩ := hk.2.1 j hj
    exact ⟨v, by omega, e⟩
  have hEq : ∀ j, j < no → ∀ r, r < (q j).2.2.1 → okW ((q j).2.2.2 r) := fun j hj r hr2 => okW_of np5 ((hk.2.1 j hj).2.2.2.1 r hr2)
  have hNm : ∀ j, j < no → ∃ v, v < 1000 ∧ G (120 + j) = nI v := fun j hj => by
    obtain ⟨v, hv, e⟩ := hNq j hj
    exact ⟨v, hv, (r7 j hj).1.symm.trans e⟩
  have hWm : ∀ j, j < no → ∃ v, v < 1000 ∧ G (126 + j) = nI v := fun j hj => by
    obtain ⟨v, hv, e⟩ := hWq j hj
    exact ⟨v, hv, (r7 j hj).2.1.symm.trans e⟩
  have hEm : ∀ j, j < no → ∀ r, r < mn j → okW (gE G j r) := fun j hj r hr2 => okW_of np5 (((hk.2.1 j hj).cg (r7 j hj).symm).2.2.2.1 r hr2)
  have ePZ : (pla q no (S.2 (i + 1))) = (pla (gQ G mn) no (S.2 (i + 1))) := pla_cong r7 _
  have zq : (pla q no (S.2 (i + 1))) < no → (wrS (q (pla q no (S.2 (i + 1)))).2.2.2 (wrA 119 (nv (q (pla q no (S.2 (i + 1)))).2.1) (wrA 113 (nv (q (pla q no (S.2 (i + 1)))).1) (0, Le))) (q (pla q no (S.2 (i + 1)))).2.2.1) = (wrS (gE G (pla (gQ G mn) no (S.2 (i + 1)))) (wrA 119 (nv (G (126 + (pla (gQ G mn) no (S.2 (i + 1)))))) (wrA 113 (nv (S.2 (i + 1))) (0, Le))) (mn (pla (gQ G mn) no (S.2 (i + 1))))) := fun hz => by
    have en : (q (pla q no (S.2 (i + 1)))).1 = (S.2 (i + 1)) := pla_n hz
    rw [← ePZ, en, show (q (pla q no (S.2 (i + 1)))).2.1 = G (126 + (pla q no (S.2 (i + 1)))) from (r7 _ hz).2.1, show (q (pla q no (S.2 (i + 1)))).2.2.1 = mn (pla q no (S.2 (i + 1))) from (r7 _ hz).2.2.1]
    exact wrS_cong (r7 _ hz).2.2.2
  have zl : (pla (gQ G mn) no (S.2 (i + 1))) < no → (wrS (gE G (pla (gQ G mn) no (S.2 (i + 1)))) (wrA 119 (nv (G (126 + (pla (gQ G mn) no (S.2 (i + 1)))))) (wrA 113 (nv (S.2 (i + 1))) (0, Le))) (mn (pla (gQ G mn) no (S.2 (i + 1))))).1 ≤ 100 := fun hz => by
    obtain ⟨v, hv, ev⟩ := hNm _ hz
    obtain ⟨w, hw, ew⟩ := hWm _ hz
    have m5 := (hG.2.2 _ (show (pla (gQ G mn) no (S.2 (i + 1))) < 6 by omega)).2
    have a1 := wrS_1 (E := gE G (pla (gQ G mn) no (S.2 (i + 1)))) (s := wrA 119 (nv (G (126 + (pla (gQ G mn) no (S.2 (i + 1)))))) (wrA 113 (nv (S.2 (i + 1))) (0, Le))) (r := mn (pla (gQ G mn) no (S.2 (i + 1)))) (hEm _ hz)
    have a2 := wrA_1 (x := 119) (v := nv (G (126 + (pla (gQ G mn) no (S.2 (i + 1)))))) (s := wrA 113 (nv (S.2 (i + 1))) (0, Le))
    have a3 := wrA_1 (x := 113) (v := nv (S.2 (i + 1))) (s := (0, Le))
    have a4 := ndg_4 (nv (G (126 + (pla (gQ G mn) no (S.2 (i + 1))))))
    have a5 := ndg_4 (nv (S.2 (i + 1)))
    have a6 : ((0, Le) : XL).1 = 0 := rfl
    omega
  refine xs_f 2672 r_286_2671 rfl ?_
  refine xs_f 2673 r_286_2672 rfl ?_
  refine xs_f 2675 r_286_2673 rfl ?_
  refine xs_f 2676 r_286_2675 rfl ?_
  refine xs_f 2677 r_286_2676 rfl ?_
  refine xs_ald 2678 0 r_286_2677 (fun _ _ => rfl) rfl rfl rfl (j := (i + 1)) (nI_addE rfl (nI_k 1)) (xarr_r rfl rfl) rfl (by show _ < S.1; omega) (by show S.1 ≤ 65536; omega) rfl ?_
  refine xs_f 2679 r_286_2678 rfl ?_
  refine xs_call (lv2 := [(0, _), (1, _), (2, _)]) r_286_2679 rfl rfl (by decide) (xcan_3 rfl rfl) rfl ?_
  refine xs_f 1 r_282_0 rfl ?_
  refine xs_f 2 r_282_1 rfl ?_
  refine xs_f 3 r_282_2 rfl ?_
  refine xs_f 4 r_282_3 rfl ?_
  refine xs_call (lv2 := [(0, _), (1, _)]) r_282_4 rfl rfl (by decide) (xcan_0 rfl rfl (by first | assumption | exact xup_s | exact o0 | exact m9 | (refine (xup_n (by omega)).trans ?_; first | assumption | exact xup_s | exact o0 | exact m9) | (refine (xup_n (by omega)).trans ((xup_n (by omega)).trans ?_); first | assumption | exact xup_s | exact o0 | exact m9) | (refine (xup_n (by omega)).trans ((xup_n (by omega)).trans ((xup_n (by omega)).trans ?_)); first | assumption | exact xup_s | exact o0 | exact m9)) (by rfl)) rfl (e_129 (Lo := Le) o0 hB (by omega) (by omega) (by omega) (B0 := 820) (by omega) hZ (by omega) hNq hWq hEq (fun z9 => ?_) (fun z9 h8 Z8 u8 => ?_))
  · have hz9 : (pla (gQ G mn) no (S.2 (i + 1))) = no := ePZ.symm.trans z9
    have e9 : ∀ x, x < 820 → x ≠ 807 → x ≠ 808 → x ≠ 818 → (xbump h).1 x = h.1 x := fun _ _ _ _ _ => rfl
    have O9 : LA (xbump h).1 818 1 w0 := hO
    have m9 := (e9 809 (by omega) (by omega) (by omega) (by omega)).trans m0
    have g9 := g0.fr (e9 _ (by omega) (by omega) (by omega) (by omega))
    have l9 := L0.fr (e9 _ (by omega) (by omega) (by omega) (by omega))
    have Z9 : SbX 820 (xbump h) on Le := hZ.fr (fun _ _ => rfl) (Or.inr rfl)
    have C9 : (xbump h).2.2.1 ≤ 900 + 100 * (c + 1) ∧ (xbump h).2.2.2 ≤ 9000 + 13400 * (c + 1) := cnt_B hcn (Or.inr rfl)
    refine xK_c (lv2 := [(0, _), (1, _), (2, _)]) rfl rfl rfl rfl ?_
    refine xs_f 14 r_282_13 rfl ?_
    refine xs_ret r_282_14 rfl ?_
    refine xK_v rfl ?_
    refine xs_f 2684 (lv2 := [(6, _), (0, _), (1, _), (2, _), (3, _), (4, _), (5, _)]) r_286_2682 rfl ?_
    refine xs_f 2685 r_286_2684 rfl ?_
    refine xs_f 2686 r_286_2685 rfl ?_
    refine xs_f 2688 r_286_2686 rfl ?_
    refine xs_f 2689 r_286_2688 rfl ?_
    refine xs_f 2690 r_286_2689 rfl ?_
    refine xs_ald 2691 0 r_286_2690 (fun _ _ => rfl) rfl rfl rfl (j := (i + 1)) (nI_addE rfl (nI_k 1)) (xarr_r rfl rfl) rfl (by show _ < S.1; omega) (by show S.1 ≤ 65536; omega) rfl ?_
    refine xs_call (lv2 := [(0, _), (1, _)]) r_286_2691 rfl rfl (by decide) (xcan_0 rfl rfl (by first | assumption | exact o0 | exact m9) (by rfl)) rfl (m_237 m9 g9 hG l9 (by omega) hNm hWm hEm (fun hz f2 x2 l2 y2 => ?_) (fun hz => absurd hz9 (by omega)))
    refine xK_v rfl ?_
    refine xs_f 2696 (lv2 := [(7, _), (6, _), (0, _), (1, _), (2, _), (3, _), (4, _), (5, _)]) r_286_2694 rfl ?_
    refine xs_f 2697 r_286_2696 rfl ?_
    refine xs_call (lv2 := [(0, _)]) r_286_2697 rfl rfl (by decide) (xcan_0 rfl rfl x2 (by rfl)) rfl ?_
    refine xs_f 1 r_149_0 rfl ?_
    refine xs_get 4 r_149_1 rfl rfl x2 (by rfl) ?_
    refine xs_ret r_149_4 rfl ?_
    refine xK_v rfl ?_
    refine xs_f 2702 r_286_2700 rfl ?_
    refine xs_f 2707 r_286_2702 rfl ?_
    refine xs_f 2709 r_286_2707 rfl ?_
    refine xs_f 2724 r_286_2709 rfl ?_
    refine xs_f 2897 r_286_2724 rfl ?_
    exact xP_lv [(0, .ref 12), (1, .ref 32), (2, .ref 809), (3, .ref 818), (4, .ref 819), (5, .int (nI i))] rfl ⟨rfl, rfl, rfl, rfl, rfl, rfl, trivial⟩ (k _ (hP.w (h2 := (f2, _)) (fun x h1 h2 h3 h4 h5 h6 => (y2 x (by omega)).trans (e9 x h1 h2 h3 h6)) (Z9.fr (fun x hx => y2 x (by omega)) (Or.inl rfl)) ⟨_, _, _, x2⟩ l2 ⟨_, O9.fr (y2 _ (by omega))⟩ (by first | exact zl (by omega) | omega) C9))
  · have hz9 : (pla (gQ G mn) no (S.2 (i + 1))) < no := ePZ ▸ z9
    rw [zq z9] at Z8
    have q9 : nI (wrS (q (pla q no (S.2 (i + 1)))).2.2.2 (wrA 119 (nv (q (pla q no (S.2 (i + 1)))).2.1) (wrA 113 (nv (q (pla q no (S.2 (i + 1)))).1) (0, Le))) (q (pla q no (S.2 (i + 1)))).2.2.1).1 = nI (wrS (gE G (pla (gQ G mn) no (S.2 (i + 1)))) (wrA 119 (nv (G (126 + (pla (gQ G mn) no (S.2 (i + 1)))))) (wrA 113 (nv (S.2 (i + 1))) (0, Le))) (mn (pla (gQ G mn) no (S.2 (i + 1))))).1 := by rw [zq z9]
    refine xK_v rfl ?_
    refine xs_f 8 r_282_7 rfl ?_
    refine xs_astL 9 r_282_8 (fun _ _ => rfl) rfl rfl rfl (j := 0) (nI_k 0) (hO.fr (u8.1 818 (by omega) (by omega) (by omega))) (by omega) (fun f1 O9 y1 => ?_)
    have e9 : ∀ x, x < 820 → x ≠ 807 → x ≠ 808 → x ≠ 818 → f1 x = h.1 x := fun x h1 h2 h3 h4 => (y1 x (by omega)).trans (u8.1 x h1 h2 h3)
    have m9 := (e9 809 (by omega) (by omega) (by omega) (by omega)).trans m0
    have g9 := g0.fr (e9 _ (by omega) (by omega) (by omega) (by omega))
    have l9 := L0.fr (e9 _ (by omega) (by omega) (by omega) (by omega))
    have Z9 : SbX 820 (f1, h8.2) _ _ := Z8.fr (fun x hx => y1 x (by omega)) (Or.inl rfl)
    have C9 : h8.2.2.1 ≤ 900 + 100 * (c + 1) ∧ h8.2.2.2 ≤ 9000 + 13400 * (c + 1) := by
      have := u8.2.1
      have := u8.2.2
      omega
    refine xs_f 15 r_282_9 rfl ?_
    refine xs_f 16 r_282_15 rfl ?_
    refine xs_ret r_282_16 rfl ?_
    refine xK_v rfl ?_
    refine xs_f 2684 (lv2 := [(6, _), (0, _), (1, _), (2, _), (3, _), (4, _), (5, _)]) r_286_2682 rfl ?_
    refine xs_f 2685 r_286_2684 rfl ?_
    refine xs_f 2686 r_286_2685 rfl ?_
    refine xs_f 2688 r_286_2686 rfl ?_
    refine xs_f 2689 r_286_2688 rfl ?_
    refine xs_f 2690 r_286_2689 rfl ?_
    refine xs_ald 2691 0 r_286_2690 (fun _ _ => rfl) rfl rfl rfl (j := (i + 1)) (nI_addE rfl (nI_k 1)) (xarr_r rfl rfl) rfl (by show _ < S.1; omega) (by show S.1 ≤ 65536; omega) rfl ?_
    refine xs_call (lv2 := [(0, _), (1, _)]) r_286_2691 rfl rfl (by decide) (xcan_0 rfl rfl (by first | assumption | exact o0 | exact m9) (by rfl)) rfl (m_237 m9 g9 hG l9 (by omega) hNm hWm hEm (fun hz => absurd hz9 (by omega)) (fun hz f2 x2 l2 y2 => ?_))
    refine xK_v rfl ?_
    refine xs_f 2696 (lv2 := [(7, _), (6, _), (0, _), (1, _), (2, _), (3, _), (4, _), (5, _)]) r_286_2694 rfl ?_
    refine xs_f 2697 r_286_2696 rfl ?_
    refine xs_call (lv2 := [(0, _)]) r_286_2697 rfl rfl (by decide) (xcan_0 rfl rfl x2 (by rfl)) rfl ?_
    refine xs_f 1 r_149_0 rfl ?_
    refine xs_get 4 r_149_1 rfl rfl x2 (by rfl) ?_
    refine xs_ret r_149_4 rfl ?_
    refine xK_v rfl ?_
    refine xs_f 2702 r_286_2700 rfl ?_
    refine xs_f 2707 r_286_2702 rfl ?_
    refine xs_f 2709 r_286_2707 rfl ?_
    refine xs_f 2712 r_286_2709 rfl ?_
    refine xs_f 2713 r_286_2712 rfl ?_
    refine xs_f 2714 r_286_2713 rfl ?_
    refine xs_aldL 2715 r_286_2714 (fun _ _ => rfl) rfl rfl rfl (j := 0) (nI_k 0) (O9.fr (y2 _ (by omega))) (by omega) ?_
    rw [xw_s]
    refine xs_f 2717 r_286_2715 rfl ?_
    refine xs_f 2718 r_286_2717 rfl ?_
    refine xs_f 2719 r_286_2718 rfl ?_
    refine xs_if 2724 2722 r_286_2719 rfl (fun hl => ?_) (fun hl => ?_)
    · refine xs_f 2897 r_286_2724 rfl ?_
      exact xP_lv [(0, .ref 12), (1, .ref 32), (2, .ref 809), (3, .ref 818), (4, .ref 819), (5, .int (nI i))] rfl ⟨rfl, rfl, rfl, rfl, rfl, rfl, trivial⟩ (k _ (hP.w (h2 := (f2, _)) (fun x h1 h2 h3 h4 h5 h6 => (y2 x (by omega)).trans (e9 x h1 h2 h3 h6)) (Z9.fr (fun x hx => y2 x (by omega)) (Or.inl rfl)) ⟨_, _, _, x2⟩ l2 ⟨_, O9.fr (y2 _ (by omega))⟩ (by first | exact zl (by omega) | omega) C9))
    · exact absurd (by rw [q9]; exact lg_cmp_r _) hl

