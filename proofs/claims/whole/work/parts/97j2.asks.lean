/-! the law: questions, 2 -/
theorem lw_20 {S : XSc} {d : Nat} {h : XH} {Q : XO → XH → Prop} {i c : Nat} (hi : i + 7 ≤ S.1) (hL : S.1 ≤ 3584) (hc : c ≤ 511) (hI : LwI h c) (k : ∀ h2, LwI h2 (c + 1) → xP S (d + 14) 286 2897 [(0, .ref 12), (1, .ref 32), (2, .ref 809), (3, .ref 818), (4, .ref 819), (5, .int (nI i))] [] h2 Q) : xP S (d + 14) 286 1312 [(0, .ref 12), (1, .ref 32), (2, .ref 809), (3, .ref 818), (4, .ref 819), (5, .int (nI i))] [] h Q := by
  obtain ⟨H, Sv, pos, ch, sv, K, ea, fa, G, tn, Bu, on, Le, hP⟩ := hI
  obtain ⟨hX, hS, ⟨W, lo, hi2, hC⟩, ⟨p0, cc0, nu0, hT⟩, hZ, ⟨B, Mo, Pa, th, sp, wr, hM⟩, ⟨w0, hO⟩, hD, ⟨hK, h8, ht, hon⟩, hcn⟩ := id hP
  obtain ⟨o0, hHi, hSv, G8, hG8⟩ := id hX
  obtain ⟨mn, np, no, nn, N, sc, ho, TS, TH, tr, pl, q, s, R, hB, hr, hk, hN, hs⟩ := id hS
  obtain ⟨hG, ⟨r2, r3, r4⟩, r5, r6, r7, r8⟩ := id hr
  obtain ⟨m0, g0, b0, H0, S0, U0, L0, M0, A0⟩ := id hM
  have np5 := hG.1.2
  have no6 := hG.2.1.2
  have mm5 : ∀ i, i < no → (gQ G mn i).2.2.1 ≤ 5 := fun i hi => (hG.2.2 i (by omega)).2
  have hR : (R_fld np q no (S.2 (i + 1)) (S.2 (i + 2)) (fun e => e.2.2.2.1)) = (R_fld np (gQ G mn) no (S.2 (i + 1)) (S.2 (i + 2)) (fun e => e.2.2.2.1)) := R_fld_cong r7 np _ _ _
  refine xs_f 1313 r_286_1312 rfl ?_
  refine xs_f 1314 r_286_1313 rfl ?_
  refine xs_f 1316 r_286_1314 rfl ?_
  refine xs_f 1317 r_286_1316 rfl ?_
  refine xs_f 1318 r_286_1317 rfl ?_
  refine xs_ald 1319 0 r_286_1318 (fun _ _ => rfl) rfl rfl rfl (j := (i + 1)) (nI_addE rfl (nI_k 1)) (xarr_r rfl rfl) rfl (by show _ < S.1; omega) (by show S.1 ≤ 65536; omega) rfl ?_
  refine xs_f 1320 r_286_1319 rfl ?_
  refine xs_f 1322 r_286_1320 rfl ?_
  refine xs_f 1323 r_286_1322 rfl ?_
  refine xs_f 1324 r_286_1323 rfl ?_
  refine xs_ald 1325 0 r_286_1324 (fun _ _ => rfl) rfl rfl rfl (j := (i + 2)) (nI_addE rfl (nI_k 2)) (xarr_r rfl rfl) rfl (by show _ < S.1; omega) (by show S.1 ≤ 65536; omega) rfl ?_
  refine xs_f 1326 r_286_1325 rfl ?_
  refine xs_call (lv2 := [(0, _), (1, _), (2, _), (3, _)]) r_286_1326 rfl rfl (by decide) (xcan_3 rfl rfl) rfl ?_
  refine xs_f 1 r_259_0 rfl ?_
  refine xs_f 2 r_259_1 rfl ?_
  refine xs_f 3 r_259_2 rfl ?_
  refine xs_f 4 r_259_3 rfl ?_
  refine xs_f 5 r_259_4 rfl ?_
  refine xs_call (lv2 := [(0, _), (1, _), (2, _)]) r_259_5 rfl rfl (by decide) (xcan_0 rfl rfl (by first | assumption | exact xup_s | exact o0 | exact m9 | (refine (xup_n (by omega)).trans ?_; first | assumption | exact xup_s | exact o0 | exact m9) | (refine (xup_n (by omega)).trans ((xup_n (by omega)).trans ?_); first | assumption | exact xup_s | exact o0 | exact m9) | (refine (xup_n (by omega)).trans ((xup_n (by omega)).trans ((xup_n (by omega)).trans ?_)); first | assumption | exact xup_s | exact o0 | exact m9)) (by rfl)) rfl (e_104 o0 hB (by omega) (fun z9 => ?_) (fun z9 => ?_) (fun z9 => ?_))
  · rw [hR] at z9
    have q9 : ((R_fld np q no (S.2 (i + 1)) (S.2 (i + 2)) (fun e => e.2.2.2.1)) : XR).2 = (R_fld np (gQ G mn) no (S.2 (i + 1)) (S.2 (i + 2)) (fun e => e.2.2.2.1)).2 := congrArg Prod.snd hR
    have c8 := hC
    have e8 : ∀ x, (x < 794 ∨ 804 ≤ x) → h.1 x = h.1 x := fun _ _ => rfl
    refine xK_v rfl ?_
    refine xs_f 9 r_259_8 rfl ?_
    refine xs_astL 10 r_259_9 (fun _ _ => rfl) rfl rfl rfl (j := 0) (nI_k 0) hO (by omega) (fun f1 O9 y1 => ?_)
    have z1 : ∀ x, x ≠ 818 → (x < 794 ∨ 804 ≤ x) → f1 x = h.1 x := fun x h1 h2 => (y1 x (by omega)).trans (e8 x h2)
    have e9 := z1
    have c9 := c8.fr (g := f1) (fun x h1 h2 => y1 x (by omega))
    have m9 := (e9 809 (by omega) (by omega)).trans m0
    have g9 := g0.fr (e9 _ (by omega) (by omega))
    have D9 := hD.fr (e9 _ (by omega) (by omega))
    have B9 : h.2 = h.2 ∨ h.2 = (xbump h).2 := Or.inl rfl
    refine xs_f 21 r_259_10 rfl ?_
    refine xs_f 22 r_259_21 rfl ?_
    refine xs_ret r_259_22 rfl ?_
    refine xK_v rfl ?_
    refine xs_f 1331 (lv2 := [(6, _), (0, _), (1, _), (2, _), (3, _), (4, _), (5, _)]) r_286_1329 rfl ?_
    refine xs_f 1332 r_286_1331 rfl ?_
    refine xs_f 1333 r_286_1332 rfl ?_
    refine xs_f 1335 r_286_1333 rfl ?_
    refine xs_f 1336 r_286_1335 rfl ?_
    refine xs_f 1337 r_286_1336 rfl ?_
    refine xs_ald 1338 0 r_286_1337 (fun _ _ => rfl) rfl rfl rfl (j := (i + 1)) (nI_addE rfl (nI_k 1)) (xarr_r rfl rfl) rfl (by show _ < S.1; omega) (by show S.1 ≤ 65536; omega) rfl ?_
    refine xs_f 1339 r_286_1338 rfl ?_
    refine xs_f 1341 r_286_1339 rfl ?_
    refine xs_f 1342 r_286_1341 rfl ?_
    refine xs_f 1343 r_286_1342 rfl ?_
    refine xs_ald 1344 0 r_286_1343 (fun _ _ => rfl) rfl rfl rfl (j := (i + 2)) (nI_addE rfl (nI_k 2)) (xarr_r rfl rfl) rfl (by show _ < S.1; omega) (by show S.1 ≤ 65536; omega) rfl ?_
    refine xs_call (lv2 := [(0, _), (1, _), (2, _)]) r_286_1344 rfl rfl (by decide) (xcan_0 rfl rfl (by first | assumption | exact o0 | exact m9) (by rfl)) rfl (m_195 m9 g9 hG (by omega) (fun f2 x2 y2 => ?_))
    refine xK_v rfl ?_
    refine xs_f 1349 (lv2 := [(7, _), (6, _), (0, _), (1, _), (2, _), (3, _), (4, _), (5, _)]) r_286_1347 rfl ?_
    refine xs_f 1350 r_286_1349 rfl ?_
    refine xs_call (lv2 := [(0, _)]) r_286_1350 rfl rfl (by decide) (xcan_0 rfl rfl x2 (by rfl)) rfl ?_
    refine xs_f 1 r_149_0 rfl ?_
    refine xs_get 4 r_149_1 rfl rfl x2 (by rfl) ?_
    refine xs_ret r_149_4 rfl ?_
    refine xK_v rfl ?_
    refine xs_f 1355 r_286_1353 rfl ?_
    refine xs_if 1360 1358 r_286_1355 rfl (fun hth => ?_) (fun hth => ?_)
    · refine xs_f 1362 r_286_1360 rfl ?_
      refine xs_f 1365 r_286_1362 rfl ?_
      refine xs_f 1366 r_286_1365 rfl ?_
      refine xs_f 1367 r_286_1366 rfl ?_
      refine xs_aldL 1368 r_286_1367 (fun _ _ => rfl) rfl rfl rfl (j := 0) (nI_k 0) (O9.fr (y2 _ (by omega))) (by omega) ?_
      rw [xw_s]
      refine xs_f 1370 r_286_1368 rfl ?_
      refine xs_f 1371 r_286_1370 rfl ?_
      refine xs_f 1372 r_286_1371 rfl ?_
      refine xs_if 1377 1375 r_286_1372 rfl (fun hl => ?_) (fun hl => ?_)
      · refine xs_f 2897 r_286_1377 rfl ?_
        exact xP_lv [(0, .ref 12), (1, .ref 32), (2, .ref 809), (3, .ref 818), (4, .ref 819), (5, .int (nI i))] rfl ⟨rfl, rfl, rfl, rfl, rfl, rfl, trivial⟩ (k _ (hP.q (h2 := (f2, _)) (fun x h1 h2 h3 h4 => (y2 x (by omega)).trans (e9 x h2 h4)) ⟨_, _, _, x2⟩ ⟨_, O9.fr (y2 _ (by omega))⟩ (D9.fr (y2 _ (by omega))) ⟨_, _, _, c9.fr (fun x h1 h2 => y2 x (by omega))⟩ B9))
      · exact absurd (by rw [q9]; exact lg_cmp_r _) hl
    · exact absurd (by first | exact congrArg nI z9 | rfl) hth
  · rw [hR] at z9
    have c9 := hC
    have O9 := hO
    have D9 := hD
    have e9 : ∀ x, x ≠ 818 → (x < 794 ∨ 804 ≤ x) → (xbump h).1 x = h.1 x := fun _ _ _ => rfl
    have m9 := (e9 809 (by omega) (by omega)).trans m0
    have g9 := g0.fr (e9 _ (by omega) (by omega))
    have B9 : (xbump h).2 = h.2 ∨ (xbump h).2 = (xbump h).2 := Or.inr rfl
    refine xK_c (lv2 := [(0, _), (1, _), (2, _), (3, _)]) rfl rfl rfl rfl ?_
    refine xs_f 16 r_259_15 rfl ?_
    refine xs_ret r_259_16 rfl ?_
    refine xK_v rfl ?_
    refine xs_f 1331 (lv2 := [(6, _), (0, _), (1, _), (2, _), (3, _), (4, _), (5, _)]) r_286_1329 rfl ?_
    refine xs_f 1332 r_286_1331 rfl ?_
    refine xs_f 1333 r_286_1332 rfl ?_
    refine xs_f 1335 r_286_1333 rfl ?_
    refine xs_f 1336 r_286_1335 rfl ?_
    refine xs_f 1337 r_286_1336 rfl ?_
    refine xs_ald 1338 0 r_286_1337 (fun _ _ => rfl) rfl rfl rfl (j := (i + 1)) (nI_addE rfl (nI_k 1)) (xarr_r rfl rfl) rfl (by show _ < S.1; omega) (by show S.1 ≤ 65536; omega) rfl ?_
    refine xs_f 1339 r_286_1338 rfl ?_
    refine xs_f 1341 r_286_1339 rfl ?_
    refine xs_f 1342 r_286_1341 rfl ?_
    refine xs_f 1343 r_286_1342 rfl ?_
    refine xs_ald 1344 0 r_286_1343 (fun _ _ => rfl) rfl rfl rfl (j := (i + 2)) (nI_addE rfl (nI_k 2)) (xarr_r rfl rfl) rfl (by show _ < S.1; omega) (by show S.1 ≤ 65536; omega) rfl ?_
    refine xs_call (lv2 := [(0, _), (1, _), (2, _)]) r_286_1344 rfl rfl (by decide) (xcan_0 rfl rfl (by first | assumption | exact o0 | exact m9) (by rfl)) rfl (m_195 m9 g9 hG (by omega) (fun f2 x2 y2 => ?_))
    refine xK_v rfl ?_
    refine xs_f 1349 (lv2 := [(7, _), (6, _), (0, _), (1, _), (2, _), (3, _), (4, _), (5, _)]) r_286_1347 rfl ?_
    refine xs_f 1350 r_286_1349 rfl ?_
    refine xs_call (lv2 := [(0, _)]) r_286_1350 rfl rfl (by decide) (xcan_0 rfl rfl x2 (by rfl)) rfl ?_
    refine xs_f 1 r_149_0 rfl ?_
    refine xs_get 4 r_149_1 rfl rfl x2 (by rfl) ?_
    refine xs_ret r_149_4 rfl ?_
    refine xK_v rfl ?_
    refine xs_f 1355 r_286_1353 rfl ?_
    refine xs_if 1360 1358 r_286_1355 rfl (fun hth => ?_) (fun hth => ?_)
    · refine xs_f 1362 r_286_1360 rfl ?_
      refine xs_f 1377 r_286_1362 rfl ?_
      refine xs_f 2897 r_286_1377 rfl ?_
      exact xP_lv [(0, .ref 12), (1, .ref 32), (2, .ref 809), (3, .ref 818), (4, .ref 819), (5, .int (nI i))] rfl ⟨rfl, rfl, rfl, rfl, rfl, rfl, trivial⟩ (k _ (hP.q (h2 := (f2, _)) (fun x h1 h2 h3 h4 => (y2 x (by omega)).trans (e9 x h2 h4)) ⟨_, _, _, x2⟩ ⟨_, O9.fr (y2 _ (by omega))⟩ (D9.fr (y2 _ (by omega))) ⟨_, _, _, c9.fr (fun x h1 h2 => y2 x (by omega))⟩ B9))
    · exact absurd (by first | exact congrArg nI z9 | rfl) hth
  · rw [hR] at z9
    have c9 := hC
    have O9 := hO
    have D9 := hD
    have e9 : ∀ x, x ≠ 818 → (x < 794 ∨ 804 ≤ x) → (xbump h).1 x = h.1 x := fun _ _ _ => rfl
    have m9 := (e9 809 (by omega) (by omega)).trans m0
    have g9 := g0.fr (e9 _ (by omega) (by omega))
    have B9 : (xbump h).2 = h.2 ∨ (xbump h).2 = (xbump h).2 := Or.inr rfl
    refine xK_c (lv2 := [(0, _), (1, _), (2, _), (3, _)]) rfl rfl rfl rfl ?_
    refine xs_f 20 r_259_19 rfl ?_
    refine xs_ret r_259_20 rfl ?_
    refine xK_v rfl ?_
    refine xs_f 1331 (lv2 := [(6, _), (0, _), (1, _), (2, _), (3, _), (4, _), (5, _)]) r_286_1329 rfl ?_
    refine xs_f 1332 r_286_1331 rfl ?_
    refine xs_f 1333 r_286_1332 rfl ?_
    refine xs_f 1335 r_286_1333 rfl ?_
    refine xs_f 1336 r_286_1335 rfl ?_
    refine xs_f 1337 r_286_1336 rfl ?_
    refine xs_ald 1338 0 r_286_1337 (fun _ _ => rfl) rfl rfl rfl (j := (i + 1)) (nI_addE rfl (nI_k 1)) (xarr_r rfl rfl) rfl (by show _ < S.1; omega) (by show S.1 ≤ 65536; omega) rfl ?_
    refine xs_f 1339 r_286_1338 rfl ?_
    refine xs_f 1341 r_286_1339 rfl ?_
    refine xs_f 1342 r_286_1341 rfl ?_
    refine xs_f 1343 r_286_1342 rfl ?_
    refine xs_ald 1344 0 r_286_1343 (fun _ _ => rfl) rfl rfl rfl (j := (i + 2)) (nI_addE rfl (nI_k 2)) (xarr_r rfl rfl) rfl (by show _ < S.1; omega) (by show S.1 ≤ 65536; omega) rfl ?_
    refine xs_call (lv2 := [(0, _), (1, _), (2, _)]) r_286_1344 rfl rfl (by decide) (xcan_0 rfl rfl (by first | assumption | exact o0 | exact m9) (by rfl)) rfl (m_195 m9 g9 hG (by omega) (fun f2 x2 y2 => ?_))
    refine xK_v rfl ?_
    refine xs_f 1349 (lv2 := [(7, _), (6, _), (0, _), (1, _), (2, _), (3, _), (4, _), (5, _)]) r_286_1347 rfl ?_
    refine xs_f 1350 r_286_1349 rfl ?_
    refine xs_call (lv2 := [(0, _)]) r_286_1350 rfl rfl (by decide) (xcan_0 rfl rfl x2 (by rfl)) rfl ?_
    refine xs_f 1 r_149_0 rfl ?_
    refine xs_get 4 r_149_1 rfl rfl x2 (by rfl) ?_
    refine xs_ret r_149_4 rfl ?_
    refine xK_v rfl ?_
    refine xs_f 1355 r_286_1353 rfl ?_
    refine xs_if 1360 1358 r_286_1355 rfl (fun hth => ?_) (fun hth => ?_)
    · refine xs_f 1362 r_286_1360 rfl ?_
      refine xs_f 1377 r_286_1362 rfl ?_
      refine xs_f 2897 r_286_1377 rfl ?_
      exact xP_lv [(0, .ref 12), (1, .ref 32), (2, .ref 809), (3, .ref 818), (4, .ref 819), (5, .int (nI i))] rfl ⟨rfl, rfl, rfl, rfl, rfl, rfl, trivial⟩ (k _ (hP.q (h2 := (f2, _)) (fun x h1 h2 h3 h4 => (y2 x (by omega)).trans (e9 x h2 h4)) ⟨_, _, _, x2⟩ ⟨_, O9.fr (y2 _ (by omega))⟩ (D9.fr (y2 _ (by omega))) ⟨_, _, _, c9.fr (fun x h1 h2 => y2 x (by omega))⟩ B9))
    · exact absurd (by first | exact congrArg nI z9 | rfl) hth

theorem lw_21 {S : XSc} {d : Nat} {h : XH} {Q : XO → XH → Prop} {i c : Nat} (hi : i + 7 ≤ S.1) (hL : S.1 ≤ 3584) (hc : c ≤ 511) (hI : LwI h c) (k : ∀ h2, LwI h2 (c + 1) → xP S (d + 14) 286 2897 [(0, .ref 12), (1, .ref 32), (2, .ref 809), (3, .ref 818), (4, .ref 819), (5, .int (nI i))] [] h2 Q) : xP S (d + 14) 286 1380 [(0, .ref 12), (1, .ref 32), (2, .ref 809), (3, .ref 818), (4, .ref 819), (5, .int (nI i))] [] h Q := by
  obtain ⟨H, Sv, pos, ch, sv, K, ea, fa, G, tn, Bu, on, Le, hP⟩ := hI
  obtain ⟨hX, hS, ⟨W, lo, hi2, hC⟩, ⟨p0, cc0, nu0, hT⟩, hZ, ⟨B, Mo, Pa, th, sp, wr, hM⟩, ⟨w0, hO⟩, hD, ⟨hK, h8, ht, hon⟩, hcn⟩ := id hP
  obtain ⟨o0, hHi, hSv, G8, hG8⟩ := id hX
  obtain ⟨mn, np, no, nn, N, sc, ho, TS, TH, tr, pl, q, s, R, hB, hr, hk, hN, hs⟩ := id hS
  obtain ⟨hG, ⟨r2, r3, r4⟩, r5, r6, r7, r8⟩ := id hr
  obtain ⟨m0, g0, b0, H0, S0, U0, L0, M0, A0⟩ := id hM
  have np5 := hG.1.2
  have no6 := hG.2.1.2
  have mm5 : ∀ i, i < no → (gQ G mn i).2.2.1 ≤ 5 := fun i hi => (hG.2.2 i (by omega)).2
  have hR : (R_fld np q no (S.2 (i + 1)) (S.2 (i + 2)) (fun e => e.2.2.2.2)) = (R_fld np (gQ G mn) no (S.2 (i + 1)) (S.2 (i + 2)) (fun e => e.2.2.2.2)) := R_fld_cong r7 np _ _ _
  refine xs_f 1381 r_286_1380 rfl ?_
  refine xs_f 1382 r_286_1381 rfl ?_
  refine xs_f 1384 r_286_1382 rfl ?_
  refine xs_f 1385 r_286_1384 rfl ?_
  refine xs_f 1386 r_286_1385 rfl ?_
  refine xs_ald 1387 0 r_286_1386 (fun _ _ => rfl) rfl rfl rfl (j := (i + 1)) (nI_addE rfl (nI_k 1)) (xarr_r rfl rfl) rfl (by show _ < S.1; omega) (by show S.1 ≤ 65536; omega) rfl ?_
  refine xs_f 1388 r_286_1387 rfl ?_
  refine xs_f 1390 r_286_1388 rfl ?_
  refine xs_f 1391 r_286_1390 rfl ?_
  refine xs_f 1392 r_286_1391 rfl ?_
  refine xs_ald 1393 0 r_286_1392 (fun _ _ => rfl) rfl rfl rfl (j := (i + 2)) (nI_addE rfl (nI_k 2)) (xarr_r rfl rfl) rfl (by show _ < S.1; omega) (by show S.1 ≤ 65536; omega) rfl ?_
  refine xs_f 1394 r_286_1393 rfl ?_
  refine xs_call (lv2 := [(0, _), (1, _), (2, _), (3, _)]) r_286_1394 rfl rfl (by decide) (xcan_3 rfl rfl) rfl ?_
  refine xs_f 1 r_260_0 rfl ?_
  refine xs_f 2 r_260_1 rfl ?_
  refine xs_f 3 r_260_2 rfl ?_
  refine xs_f 4 r_260_3 rfl ?_
  refine xs_f 5 r_260_4 rfl ?_
  refine xs_call (lv2 := [(0, _), (1, _), (2, _)]) r_260_5 rfl rfl (by decide) (xcan_0 rfl rfl (by first | assumption | exact xup_s | exact o0 | exact m9 | (refine (xup_n (by omega)).trans ?_; first | assumption | exact xup_s | exact o0 | exact m9) | (refine (xup_n (by omega)).trans ((xup_n (by omega)).trans ?_); first | assumption | exact xup_s | exact o0 | exact m9) | (refine (xup_n (by omega)).trans ((xup_n (by omega)).trans ((xup_n (by omega)).trans ?_)); first | assumption | exact xup_s | exact o0 | exact m9)) (by rfl)) rfl (e_105 o0 hB (by omega) (fun z9 => ?_) (fun z9 => ?_) (fun z9 => ?_))
  · rw [hR] at z9
    have q9 : ((R_fld np q no (S.2 (i + 1)) (S.2 (i + 2)) (fun e => e.2.2.2.2)) : XR).2 = (R_fld np (gQ G mn) no (S.2 (i + 1)) (S.2 (i + 2)) (fun e => e.2.2.2.2)).2 := congrArg Prod.snd hR
    have c8 := hC
    have e8 : ∀ x, (x < 794 ∨ 804 ≤ x) → h.1 x = h.1 x := fun _ _ => rfl
    refine xK_v rfl ?_
    refine xs_f 9 r_260_8 rfl ?_
    refine xs_astL 10 r_260_9 (fun _ _ => rfl) rfl rfl rfl (j := 0) (nI_k 0) hO (by omega) (fun f1 O9 y1 => ?_)
    have z1 : ∀ x, x ≠ 818 → (x < 794 ∨ 804 ≤ x) → f1 x = h.1 x := fun x h1 h2 => (y1 x (by omega)).trans (e8 x h2)
    have e9 := z1
    have c9 := c8.fr (g := f1) (fun x h1 h2 => y1 x (by omega))
    have m9 := (e9 809 (by omega) (by omega)).trans m0
    have g9 := g0.fr (e9 _ (by omega) (by omega))
    have D9 := hD.fr (e9 _ (by omega) (by omega))
    have B9 : h.2 = h.2 ∨ h.2 = (xbump h).2 := Or.inl rfl
    refine xs_f 21 r_260_10 rfl ?_
    refine xs_f 22 r_260_21 rfl ?_
    refine xs_ret r_260_22 rfl ?_
    refine xK_v rfl ?_
    refine xs_f 1399 (lv2 := [(6, _), (0, _), (1, _), (2, _), (3, _), (4, _), (5, _)]) r_286_1397 rfl ?_
    refine xs_f 1400 r_286_1399 rfl ?_
    refine xs_f 1401 r_286_1400 rfl ?_
    refine xs_f 1403 r_286_1401 rfl ?_
    refine xs_f 1404 r_286_1403 rfl ?_
    refine xs_f 1405 r_286_1404 rfl ?_
    refine xs_ald 1406 0 r_286_1405 (fun _ _ => rfl) rfl rfl rfl (j := (i + 1)) (nI_addE rfl (nI_k 1)) (xarr_r rfl rfl) rfl (by show _ < S.1; omega) (by show S.1 ≤ 65536; omega) rfl ?_
    refine xs_f 1407 r_286_1406 rfl ?_
    refine xs_f 1409 r_286_1407 rfl ?_
    refine xs_f 1410 r_286_1409 rfl ?_
    refine xs_f 1411 r_286_1410 rfl ?_
    refine xs_ald 1412 0 r_286_1411 (fun _ _ => rfl) rfl rfl rfl (j := (i + 2)) (nI_addE rfl (nI_k 2)) (xarr_r rfl rfl) rfl (by show _ < S.1; omega) (by show S.1 ≤ 65536; omega) rfl ?_
    refine xs_call (lv2 := [(0, _), (1, _), (2, _)]) r_286_1412 rfl rfl (by decide) (xcan_0 rfl rfl (by first | assumption | exact o0 | exact m9) (by rfl)) rfl (m_196 m9 g9 hG (by omega) (fun f2 x2 y2 => ?_))
    refine xK_v rfl ?_
    refine xs_f 1417 (lv2 := [(7, _), (6, _), (0, _), (1, _), (2, _), (3, _), (4, _), (5, _)]) r_286_1415 rfl ?_
    refine xs_f 1418 r_286_1417 rfl ?_
    refine xs_call (lv2 := [(0, _)]) r_286_1418 rfl rfl (by decide) (xcan_0 rfl rfl x2 (by rfl)) rfl ?_
    refine xs_f 1 r_149_0 rfl ?_
    refine xs_get 4 r_149_1 rfl rfl x2 (by rfl) ?_
    refine xs_ret r_149_4 rfl ?_
    refine xK_v rfl ?_
    refine xs_f 1423 r_286_1421 rfl ?_
    refine xs_if 1428 1426 r_286_1423 rfl (fun hth => ?_) (fun hth => ?_)
    · refine xs_f 1430 r_286_1428 rfl ?_
      refine xs_f 1433 r_286_1430 rfl ?_
      refine xs_f 1434 r_286_1433 rfl ?_
      refine xs_f 1435 r_286_1434 rfl ?_
      refine xs_aldL 1436 r_286_1435 (fun _ _ => rfl) rfl rfl rfl (j := 0) (nI_k 0) (O9.fr (y2 _ (by omega))) (by omega) ?_
      rw [xw_s]
      refine xs_f 1438 r_286_1436 rfl ?_
      refine xs_f 1439 r_286_1438 rfl ?_
      refine xs_f 1440 r_286_1439 rfl ?_
      refine xs_if 1445 1443 r_286_1440 rfl (fun hl => ?_) (fun hl => ?_)
      · refine xs_f 2897 r_286_1445 rfl ?_
        exact xP_lv [(0, .ref 12), (1, .ref 32), (2, .ref 809), (3, .ref 818), (4, .ref 819), (5, .int (nI i))] rfl ⟨rfl, rfl, rfl, rfl, rfl, rfl, trivial⟩ (k _ (hP.q (h2 := (f2, _)) (fun x h1 h2 h3 h4 => (y2 x (by omega)).trans (e9 x h2 h4)) ⟨_, _, _, x2⟩ ⟨_, O9.fr (y2 _ (by omega))⟩ (D9.fr (y2 _ (by omega))) ⟨_, _, _, c9.fr (fun x h1 h2 => y2 x (by omega))⟩ B9))
      · exact absurd (by rw [q9]; exact lg_cmp_r _) hl
    · exact absurd (by first | exact congrArg nI z9 | rfl) hth
  · rw [hR] at z9
    have c9 := hC
    have O9 := hO
    have D9 := hD
    have e9 : ∀ x, x ≠ 818 → (x < 794 ∨ 804 ≤ x) → (xbump h).1 x = h.1 x := fun _ _ _ => rfl
    have m9 := (e9 809 (by omega) (by omega)).trans m0
    have g9 := g0.fr (e9 _ (by omega) (by omega))
    have B9 : (xbump h).2 = h.2 ∨ (xbump h).2 = (xbump h).2 := Or.inr rfl
    refine xK_c (lv2 := [(0, _), (1, _), (2, _), (3, _)]) rfl rfl rfl rfl ?_
    refine xs_f 16 r_260_15 rfl ?_
    refine xs_ret r_260_16 rfl ?_
    refine xK_v rfl ?_
    refine xs_f 1399 (lv2 := [(6, _), (0, _), (1, _), (2, _), (3, _), (4, _), (5, _)]) r_286_1397 rfl ?_
    refine xs_f 1400 r_286_1399 rfl ?_
    refine xs_f 1401 r_286_1400 rfl ?_
    refine xs_f 1403 r_286_1401 rfl ?_
    refine xs_f 1404 r_286_1403 rfl ?_
    refine xs_f 1405 r_286_1404 rfl ?_
    refine xs_ald 1406 0 r_286_1405 (fun _ _ => rfl) rfl rfl rfl (j := (i + 1)) (nI_addE rfl (nI_k 1)) (xarr_r rfl rfl) rfl (by show _ < S.1; omega) (by show S.1 ≤ 65536; omega) rfl ?_
    refine xs_f 1407 r_286_1406 rfl ?_
    refine xs_f 1409 r_286_1407 rfl ?_
    refine xs_f 1410 r_286_1409 rfl ?_
    refine xs_f 1411 r_286_1410 rfl ?_
    refine xs_ald 1412 0 r_286_1411 (fun _ _ => rfl) rfl rfl rfl (j := (i + 2)) (nI_addE rfl (nI_k 2)) (xarr_r rfl rfl) rfl (by show _ < S.1; omega) (by show S.1 ≤ 65536; omega) rfl ?_
    refine xs_call (lv2 := [(0, _), (1, _), (2, _)]) r_286_1412 rfl rfl (by decide) (xcan_0 rfl rfl (by first | assumption | exact o0 | exact m9) (by rfl)) rfl (m_196 m9 g9 hG (by omega) (fun f2 x2 y2 => ?_))
    refine xK_v rfl ?_
    refine xs_f 1417 (lv2 := [(7, _), (6, _), (0, _), (1, _), (2, _), (3, _), (4, _), (5, _)]) r_286_1415 rfl ?_
    refine xs_f 1418 r_286_1417 rfl ?_
    refine xs_call (lv2 := [(0, _)]) r_286_1418 rfl rfl (by decide) (xcan_0 rfl rfl x2 (by rfl)) rfl ?_
    refine xs_f 1 r_149_0 rfl ?_
    refine xs_get 4 r_149_1 rfl rfl x2 (by rfl) ?_
    refine xs_ret r_149_4 rfl ?_
    refine xK_v rfl ?_
    refine xs_f 1423 r_286_1421 rfl ?_
    refine xs_if 1428 1426 r_286_1423 rfl (fun hth => ?_) (fun hth => ?_)
    · refine xs_f 1430 r_286_1428 rfl ?_
      refine xs_f 1445 r_286_1430 rfl ?_
      refine xs_f 2897 r_286_1445 rfl ?_
      exact xP_lv [(0, .ref 12), (1, .ref 32), (2, .ref 809), (3, .ref 818), (4, .ref 819), (5, .int (nI i))] rfl ⟨rfl, rfl, rfl, rfl, rfl, rfl, trivial⟩ (k _ (hP.q (h2 := (f2, _)) (fun x h1 h2 h3 h4 => (y2 x (by omega)).trans (e9 x h2 h4)) ⟨_, _, _, x2⟩ ⟨_, O9.fr (y2 _ (by omega))⟩ (D9.fr (y2 _ (by omega))) ⟨_, _, _, c9.fr (fun x h1 h2 => y2 x (by omega))⟩ B9))
    · exact absurd (by first | exact congrArg nI z9 | rfl) hth
  · rw [hR] at z9
    have c9 := hC
    have O9 := hO
    have D9 := hD
    have e9 : ∀ x, x ≠ 818 → (x < 794 ∨ 804 ≤ x) → (xbump h).1 x = h.1 x := fun _ _ _ => rfl
    have m9 := (e9 809 (by omega) (by omega)).trans m0
    have g9 := g0.fr (e9 _ (by omega) (by omega))
    have B9 : (xbump h).2 = h.2 ∨ (xbump h).2 = (xbump h).2 := Or.inr rfl
    refine xK_c (lv2 := [(0, _), (1, _), (2, _), (3, _)]) rfl rfl rfl rfl ?_
    refine xs_f 20 r_260_19 rfl ?_
    refine xs_ret r_260_20 rfl ?_
    refine xK_v rfl ?_
    refine xs_f 1399 (lv2 := [(6, _), (0, _), (1, _), (2, _), (3, _), (4, _), (5, _)]) r_286_1397 rfl ?_
    refine xs_f 1400 r_286_1399 rfl ?_
    refine xs_f 1401 r_286_1400 rfl ?_
    refine xs_f 1403 r_286_1401 rfl ?_
    refine xs_f 1404 r_286_1403 rfl ?_
    refine xs_f 1405 r_286_1404 rfl ?_
    refine xs_ald 1406 0 r_286_1405 (fun _ _ => rfl) rfl rfl rfl (j := (i + 1)) (nI_addE rfl (nI_k 1)) (xarr_r rfl rfl) rfl (by show _ < S.1; omega) (by show S.1 ≤ 65536; omega) rfl ?_
    refine xs_f 1407 r_286_1406 rfl ?_
    refine xs_f 1409 r_286_1407 rfl ?_
    refine xs_f 1410 r_286_1409 rfl ?_
    refine xs_f 1411 r_286_1410 rfl ?_
    refine xs_ald 1412 0 r_286_1411 (fun _ _ => rfl) rfl rfl rfl (j := (i + 2)) (nI_addE rfl (nI_k 2)) (xarr_r rfl rfl) rfl (by show _ < S.1; omega) (by show S.1 ≤ 65536; omega) rfl ?_
    refine xs_call (lv2 := [(0, _), (1, _), (2, _)]) r_286_1412 rfl rfl (by decide) (xcan_0 rfl rfl (by first | assumption | exact o0 | exact m9) (by rfl)) rfl (m_196 m9 g9 hG (by omega) (fun f2 x2 y2 => ?_))
    refine xK_v rfl ?_
    refine xs_f 1417 (lv2 := [(7, _), (6, _), (0, _), (1, _), (2, _), (3, _), (4, _), (5, _)]) r_286_1415 rfl ?_
    refine xs_f 1418 r_286_1417 rfl ?_
    refine xs_call (lv2 := [(0, _)]) r_286_1418 rfl rfl (by decide) (xcan_0 rfl rfl x2 (by rfl)) rfl ?_
    refine xs_f 1 r_149_0 rfl ?_
    refine xs_get 4 r_149_1 rfl rfl x2 (by rfl) ?_
    refine xs_ret r_149_4 rfl ?_
    refine xK_v rfl ?_
    refine xs_f 1423 r_286_1421 rfl ?_
    refine xs_if 1428 1426 r_286_1423 rfl (fun hth => ?_) (fun hth => ?_)
    · refine xs_f 1430 r_286_1428 rfl ?_
      refine xs_f 1445 r_286_1430 rfl ?_
      refine xs_f 2897 r_286_1445 rfl ?_
      exact xP_lv [(0, .ref 12), (1, .ref 32), (2, .ref 809), (3, .ref 818), (4, .ref 819), (5, .int (nI i))] rfl ⟨rfl, rfl, rfl, rfl, rfl, rfl, trivial⟩ (k _ (hP.q (h2 := (f2, _)) (fun x h1 h2 h3 h4 => (y2 x (by omega)).trans (e9 x h2 h4)) ⟨_, _, _, x2⟩ ⟨_, O9.fr (y2 _ (by omega))⟩ (D9.fr (y2 _ (by omega))) ⟨_, _, _, c9.fr (fun x h1 h2 => y2 x (by omega))⟩ B9))
    · exact absurd (by first | exact congrArg nI z9 | rfl) hth

theorem lw_22 {S : XSc} {d : Nat} {h : XH} {Q : XO → XH → Prop} {i c : Nat} (hi : i + 7 ≤ S.1) (hL : S.1 ≤ 3584) (hc : c ≤ 511) (hI : LwI h c) (k : ∀ h2, LwI h2 (c + 1) → xP S (d + 14) 286 2897 [(0, .ref 12), (1, .ref 32), (2, .ref 809), (3, .ref 818), (4, .ref 819), (5, .int (nI i))] [] h2 Q) : xP S (d + 14) 286 1448 [(0, .ref 12), (1, .ref 32), (2, .ref 809), (3, .ref 818), (4, .ref 819), (5, .int (nI i))] [] h Q := by
  obtain ⟨H, Sv, pos, ch, sv, K, ea, fa, G, tn, Bu, on, Le, hP⟩ := hI
  obtain ⟨hX, hS, ⟨W, lo, hi2, hC⟩, ⟨p0, cc0, nu0, hT⟩, hZ, ⟨B, Mo, Pa, th, sp, wr, hM⟩, ⟨w0, hO⟩, hD, ⟨hK, h8, ht, hon⟩, hcn⟩ := id hP
  obtain ⟨o0, hHi, hSv, G8, hG8⟩ := id hX
  obtain ⟨mn, np, no, nn, N, sc, ho, TS, TH, tr, pl, q, s, R, hB, hr, hk, hN, hs⟩ := id hS
  obtain ⟨hG, ⟨r2, r3, r4⟩, r5, r6, r7, r8⟩ := id hr
  obtain ⟨m0, g0, b0, H0, S0, U0, L0, M0, A0⟩ := id hM
  have np5 := hG.1.2
  have no6 := hG.2.1.2
  have mm5 : ∀ i, i < no → (gQ G mn i).2.2.1 ≤ 5 := fun i hi => (hG.2.2 i (by omega)).2
  have hR : (R_fld np q no (S.2 (i + 1)) (S.2 (i + 2)) xprize) = (R_fld np (gQ G mn) no (S.2 (i + 1)) (S.2 (i + 2)) xprize) := R_fld_cong r7 np _ _ _
  refine xs_f 1449 r_286_1448 rfl ?_
  refine xs_f 1450 r_286_1449 rfl ?_
  refine xs_f 1452 r_286_1450 rfl ?_
  refine xs_f 1453 r_286_1452 rfl ?_
  refine xs_f 1454 r_286_1453 rfl ?_
  refine xs_ald 1455 0 r_286_1454 (fun _ _ => rfl) rfl rfl rfl (j := (i + 1)) (nI_addE rfl (nI_k 1)) (xarr_r rfl rfl) rfl (by show _ < S.1; omega) (by show S.1 ≤ 65536; omega) rfl ?_
  refine xs_f 1456 r_286_1455 rfl ?_
  refine xs_f 1458 r_286_1456 rfl ?_
  refine xs_f 1459 r_286_1458 rfl ?_
  refine xs_f 1460 r_286_1459 rfl ?_
  refine xs_ald 1461 0 r_286_1460 (fun _ _ => rfl) rfl rfl rfl (j := (i + 2)) (nI_addE rfl (nI_k 2)) (xarr_r rfl rfl) rfl (by show _ < S.1; omega) (by show S.1 ≤ 65536; omega) rfl ?_
  refine xs_f 1462 r_286_1461 rfl ?_
  refine xs_call (lv2 := [(0, _), (1, _), (2, _), (3, _)]) r_286_1462 rfl rfl (by decide) (xcan_3 rfl rfl) rfl ?_
  refine xs_f 1 r_261_0 rfl ?_
  refine xs_f 2 r_261_1 rfl ?_
  refine xs_f 3 r_261_2 rfl ?_
  refine xs_f 4 r_261_3 rfl ?_
  refine xs_f 5 r_261_4 rfl ?_
  refine xs_call (lv2 := [(0, _), (1, _), (2, _)]) r_261_5 rfl rfl (by decide) (xcan_0 rfl rfl (by first | assumption | exact xup_s | exact o0 | exact m9 | (refine (xup_n (by omega)).trans ?_; first | assumption | exact xup_s | exact o0 | exact m9) | (refine (xup_n (by omega)).trans ((xup_n (by omega)).trans ?_); first | assumption | exact xup_s | exact o0 | exact m9) | (refine (xup_n (by omega)).trans ((xup_n (by omega)).trans ((xup_n (by omega)).trans ?_)); first | assumption | exact xup_s | exact o0 | exact m9)) (by rfl)) rfl (e_106 o0 hB (by omega) (conf_of hk r7).1 (fun z9 => ?_) (fun z9 => ?_) (fun z9 => ?_))
  · rw [hR] at z9
    have q9 : ((R_fld np q no (S.2 (i + 1)) (S.2 (i + 2)) xprize) : XR).2 = (R_fld np (gQ G mn) no (S.2 (i + 1)) (S.2 (i + 2)) xprize).2 := congrArg Prod.snd hR
    have c8 := hC
    have e8 : ∀ x, (x < 794 ∨ 804 ≤ x) → h.1 x = h.1 x := fun _ _ => rfl
    refine xK_v rfl ?_
    refine xs_f 9 r_261_8 rfl ?_
    refine xs_astL 10 r_261_9 (fun _ _ => rfl) rfl rfl rfl (j := 0) (nI_k 0) hO (by omega) (fun f1 O9 y1 => ?_)
    have z1 : ∀ x, x ≠ 818 → (x < 794 ∨ 804 ≤ x) → f1 x = h.1 x := fun x h1 h2 => (y1 x (by omega)).trans (e8 x h2)
    have e9 := z1
    have c9 := c8.fr (g := f1) (fun x h1 h2 => y1 x (by omega))
    have m9 := (e9 809 (by omega) (by omega)).trans m0
    have g9 := g0.fr (e9 _ (by omega) (by omega))
    have D9 := hD.fr (e9 _ (by omega) (by omega))
    have B9 : h.2 = h.2 ∨ h.2 = (xbump h).2 := Or.inl rfl
    refine xs_f 21 r_261_10 rfl ?_
    refine xs_f 22 r_261_21 rfl ?_
    refine xs_ret r_261_22 rfl ?_
    refine xK_v rfl ?_
    refine xs_f 1467 (lv2 := [(6, _), (0, _), (1, _), (2, _), (3, _), (4, _), (5, _)]) r_286_1465 rfl ?_
    refine xs_f 1468 r_286_1467 rfl ?_
    refine xs_f 1469 r_286_1468 rfl ?_
    refine xs_f 1471 r_286_1469 rfl ?_
    refine xs_f 1472 r_286_1471 rfl ?_
    refine xs_f 1473 r_286_1472 rfl ?_
    refine xs_ald 1474 0 r_286_1473 (fun _ _ => rfl) rfl rfl rfl (j := (i + 1)) (nI_addE rfl (nI_k 1)) (xarr_r rfl rfl) rfl (by show _ < S.1; omega) (by show S.1 ≤ 65536; omega) rfl ?_
    refine xs_f 1475 r_286_1474 rfl ?_
    refine xs_f 1477 r_286_1475 rfl ?_
    refine xs_f 1478 r_286_1477 rfl ?_
    refine xs_f 1479 r_286_1478 rfl ?_
    refine xs_ald 1480 0 r_286_1479 (fun _ _ => rfl) rfl rfl rfl (j := (i + 2)) (nI_addE rfl (nI_k 2)) (xarr_r rfl rfl) rfl (by show _ < S.1; omega) (by show S.1 ≤ 65536; omega) rfl ?_
    refine xs_call (lv2 := [(0, _), (1, _), (2, _)]) r_286_1480 rfl rfl (by decide) (xcan_0 rfl rfl (by first | assumption | exact o0 | exact m9) (by rfl)) rfl (m_197 m9 g9 hG (by omega) (conf_of hk r7).2 (fun f2 x2 y2 => ?_))
    refine xK_v rfl ?_
    refine xs_f 1485 (lv2 := [(7, _), (6, _), (0, _), (1, _), (2, _), (3, _), (4, _), (5, _)]) r_286_1483 rfl ?_
    refine xs_f 1486 r_286_1485 rfl ?_
    refine xs_call (lv2 := [(0, _)]) r_286_1486 rfl rfl (by decide) (xcan_0 rfl rfl x2 (by rfl)) rfl ?_
    refine xs_f 1 r_149_0 rfl ?_
    refine xs_get 4 r_149_1 rfl rfl x2 (by rfl) ?_
    refine xs_ret r_149_4 rfl ?_
    refine xK_v rfl ?_
    refine xs_f 1491 r_286_1489 rfl ?_
    refine xs_if 1496 1494 r_286_1491 rfl (fun hth => ?_) (fun hth => ?_)
    · refine xs_f 1498 r_286_1496 rfl ?_
      refine xs_f 1501 r_286_1498 rfl ?_
      refine xs_f 1502 r_286_1501 rfl ?_
      refine xs_f 1503 r_286_1502 rfl ?_
      refine xs_aldL 1504 r_286_1503 (fun _ _ => rfl) rfl rfl rfl (j := 0) (nI_k 0) (O9.fr (y2 _ (by omega))) (by omega) ?_
      rw [xw_s]
      refine xs_f 1506 r_286_1504 rfl ?_
      refine xs_f 1507 r_286_1506 rfl ?_
      refine xs_f 1508 r_286_1507 rfl ?_
      refine xs_if 1513 1511 r_286_1508 rfl (fun hl => ?_) (fun hl => ?_)
      · refine xs_f 2897 r_286_1513 rfl ?_
        exact xP_lv [(0, .ref 12), (1, .ref 32), (2, .ref 809), (3, .ref 818), (4, .ref 819), (5, .int (nI i))] rfl ⟨rfl, rfl, rfl, rfl, rfl, rfl, trivial⟩ (k _ (hP.q (h2 := (f2, _)) (fun x h1 h2 h3 h4 => (y2 x (by omega)).trans (e9 x h2 h4)) ⟨_, _, _, x2⟩ ⟨_, O9.fr (y2 _ (by omega))⟩ (D9.fr (y2 _ (by omega))) ⟨_, _, _, c9.fr (fun x h1 h2 => y2 x (by omega))⟩ B9))
      · exact absurd (by rw [q9]; exact lg_cmp_r _) hl
    · exact absurd (by first | exact congrArg nI z9 | rfl) hth
  · rw [hR] at z9
    have c9 := hC
    have O9 := hO
    have D9 := hD
    have e9 : ∀ x, x ≠ 818 → (x < 794 ∨ 804 ≤ x) → (xbump h).1 x = h.1 x := fun _ _ _ => rfl
    have m9 := (e9 809 (by omega) (by omega)).trans m0
    have g9 := g0.fr (e9 _ (by omega) (by omega))
    have B9 : (xbump h).2 = h.2 ∨ (xbump h).2 = (xbump h).2 := Or.inr rfl
    refine xK_c (lv2 := [(0, _), (1, _), (2, _), (3, _)]) rfl rfl rfl rfl ?_
    refine xs_f 16 r_261_15 rfl ?_
    refine xs_ret r_261_16 rfl ?_
    refine xK_v rfl ?_
    refine xs_f 1467 (lv2 := [(6, _), (0, _), (1, _), (2, _), (3, _), (4, _), (5, _)]) r_286_1465 rfl ?_
    refine xs_f 1468 r_286_1467 rfl ?_
    refine xs_f 1469 r_286_1468 rfl ?_
    refine xs_f 1471 r_286_1469 rfl ?_
    refine xs_f 1472 r_286_1471 rfl ?_
    refine xs_f 1473 r_286_1472 rfl ?_
    refine xs_ald 1474 0 r_286_1473 (fun _ _ => rfl) rfl rfl rfl (j := (i + 1)) (nI_addE rfl (nI_k 1)) (xarr_r rfl rfl) rfl (by show _ < S.1; omega) (by show S.1 ≤ 65536; omega) rfl ?_
    refine xs_f 1475 r_286_1474 rfl ?_
    refine xs_f 1477 r_286_1475 rfl ?_
    refine xs_f 1478 r_286_1477 rfl ?_
    refine xs_f 1479 r_286_1478 rfl ?_
    refine xs_ald 1480 0 r_286_1479 (fun _ _ => rfl) rfl rfl rfl (j := (i + 2)) (nI_addE rfl (nI_k 2)) (xarr_r rfl rfl) rfl (by show _ < S.1; omega) (by show S.1 ≤ 65536; omega) rfl ?_
    refine xs_call (lv2 := [(0, _), (1, _), (2, _)]) r_286_1480 rfl rfl (by decide) (xcan_0 rfl rfl (by first | assumption | exact o0 | exact m9) (by rfl)) rfl (m_197 m9 g9 hG (by omega) (conf_of hk r7).2 (fun f2 x2 y2 => ?_))
    refine xK_v rfl ?_
    refine xs_f 1485 (lv2 := [(7, _), (6, _), (0, _), (1, _), (2, _), (3, _), (4, _), (5, _)]) r_286_1483 rfl ?_
    refine xs_f 1486 r_286_1485 rfl ?_
    refine xs_call (lv2 := [(0, _)]) r_286_1486 rfl rfl (by decide) (xcan_0 rfl rfl x2 (by rfl)) rfl ?_
    refine xs_f 1 r_149_0 rfl ?_
    refine xs_get 4 r_149_1 rfl rfl x2 (by rfl) ?_
    refine xs_ret r_149_4 rfl ?_
    refine xK_v rfl ?_
    refine xs_f 1491 r_286_1489 rfl ?_
    refine xs_if 1496 1494 r_286_1491 rfl (fun hth => ?_) (fun hth => ?_)
    · refine xs_f 1498 r_286_1496 rfl ?_
      refine xs_f 1513 r_286_1498 rfl ?_
      refine xs_f 2897 r_286_1513 rfl ?_
      exact xP_lv [(0, .ref 12), (1, .ref 32), (2, .ref 809), (3, .ref 818), (4, .ref 819), (5, .int (nI i))] rfl ⟨rfl, rfl, rfl, rfl, rfl, rfl, trivial⟩ (k _ (hP.q (h2 := (f2, _)) (fun x h1 h2 h3 h4 => (y2 x (by omega)).trans (e9 x h2 h4)) ⟨_, _, _, x2⟩ ⟨_, O9.fr (y2 _ (by omega))⟩ (D9.fr (y2 _ (by omega))) ⟨_, _, _, c9.fr (fun x h1 h2 => y2 x (by omega))⟩ B9))
    · exact absurd (by first | exact congrArg nI z9 | rfl) hth
  · rw [hR] at z9
    have c9 := hC
    have O9 := hO
    have D9 := hD
    have e9 : ∀ x, x ≠ 818 → (x < 794 ∨ 804 ≤ x) → (xbump h).1 x = h.1 x := fun _ _ _ => rfl
    have m9 := (e9 809 (by omega) (by omega)).trans m0
    have g9 := g0.fr (e9 _ (by omega) (by omega))
    have B9 : (xbump h).2 = h.2 ∨ (xbump h).2 = (xbump h).2 := Or.inr rfl
    refine xK_c (lv2 := [(0, _), (1, _), (2, _), (3, _)]) rfl rfl rfl rfl ?_
    refine xs_f 20 r_261_19 rfl ?_
    refine xs_ret r_261_20 rfl ?_
    refine xK_v rfl ?_
    refine xs_f 1467 (lv2 := [(6, _), (0, _), (1, _), (2, _), (3, _), (4, _), (5, _)]) r_286_1465 rfl ?_
    refine xs_f 1468 r_286_1467 rfl ?_
    refine xs_f 1469 r_286_1468 rfl ?_
    refine xs_f 1471 r_286_1469 rfl ?_
    refine xs_f 1472 r_286_1471 rfl ?_
    refine xs_f 1473 r_286_1472 rfl ?_
    refine xs_ald 1474 0 r_286_1473 (fun _ _ => rfl) rfl rfl rfl (j := (i + 1)) (nI_addE rfl (nI_k 1)) (xarr_r rfl rfl) rfl (by show _ < S.1; omega) (by show S.1 ≤ 65536; omega) rfl ?_
    refine xs_f 1475 r_286_1474 rfl ?_
    refine xs_f 1477 r_286_1475 rfl ?_
    refine xs_f 1478 r_286_1477 rfl ?_
    refine xs_f 1479 r_286_1478 rfl ?_
    refine xs_ald 1480 0 r_286_1479 (fun _ _ => rfl) rfl rfl rfl (j := (i + 2)) (nI_addE rfl (nI_k 2)) (xarr_r rfl rfl) rfl (by show _ < S.1; omega) (by show S.1 ≤ 65536; omega) rfl ?_
    refine xs_call (lv2 := [(0, _), (1, _), (2, _)]) r_286_1480 rfl rfl (by decide) (xcan_0 rfl rfl (by first | assumption | exact o0 | exact m9) (by rfl)) rfl (m_197 m9 g9 hG (by omega) (conf_of hk r7).2 (fun f2 x2 y2 => ?_))
    refine xK_v rfl ?_
    refine xs_f 1485 (lv2 := [(7, _), (6, _), (0, _), (1, _), (2, _), (3, _), (4, _), (5, _)]) r_286_1483 rfl ?_
    refine xs_f 1486 r_286_1485 rfl ?_
    refine xs_call (lv2 := [(0, _)]) r_286_1486 rfl rfl (by decide) (xcan_0 rfl rfl x2 (by rfl)) rfl ?_
    refine xs_f 1 r_149_0 rfl ?_
    refine xs_get 4 r_149_1 rfl rfl x2 (by rfl) ?_
    refine xs_ret r_149_4 rfl ?_
    refine xK_v rfl ?_
    refine xs_f 1491 r_286_1489 rfl ?_
    refine xs_if 1496 1494 r_286_1491 rfl (fun hth => ?_) (fun hth => ?_)
    · refine xs_f 1498 r_286_1496 rfl ?_
      refine xs_f 1513 r_286_1498 rfl ?_
      refine xs_f 2897 r_286_1513 rfl ?_
      exact xP_lv [(0, .ref 12), (1, .ref 32), (2, .ref 809), (3, .ref 818), (4, .ref 819), (5, .int (nI i))] rfl ⟨rfl, rfl, rfl, rfl, rfl, rfl, trivial⟩ (k _ (hP.q (h2 := (f2, _)) (fun x h1 h2 h3 h4 => (y2 x (by omega)).trans (e9 x h2 h4)) ⟨_, _, _, x2⟩ ⟨_, O9.fr (y2 _ (by omega))⟩ (D9.fr (y2 _ (by omega))) ⟨_, _, _, c9.fr (fun x h1 h2 => y2 x (by omega))⟩ B9))
    · exact absurd (by first | exact congrArg nI z9 | rfl) hth

theorem lw_23 {S : XSc} {d : Nat} {h : XH} {Q : XO → XH → Prop} {i c : Nat} (hi : i + 7 ≤ S.1) (hL : S.1 ≤ 3584) (hc : c ≤ 511) (hI : LwI h c) (k : ∀ h2, LwI h2 (c + 1) → xP S (d + 14) 286 2897 [(0, .ref 12), (1, .ref 32), (2, .ref 809), (3, .ref 818), (4, .ref 819), (5, .int (nI i))] [] h2 Q) : xP S (d + 14) 286 1516 [(0, .ref 12), (1, .ref 32), (2, .ref 809), (3, .ref 818), (4, .ref 819), (5, .int (nI i))] [] h Q := by
  obtain ⟨H, Sv, pos, ch, sv, K, ea, fa, G, tn, Bu, on, Le, hP⟩ := hI
  obtain ⟨hX, hS, ⟨W, lo, hi2, hC⟩, ⟨p0, cc0, nu0, hT⟩, hZ, ⟨B, Mo, Pa, th, sp, wr, hM⟩, ⟨w0, hO⟩, hD, ⟨hK, h8, ht, hon⟩, hcn⟩ := id hP
  obtain ⟨o0, hHi, hSv, G8, hG8⟩ := id hX
  obtain ⟨mn, np, no, nn, N, sc, ho, TS, TH, tr, pl, q, s, R, hB, hr, hk, hN, hs⟩ := id hS
  obtain ⟨hG, ⟨r2, r3, r4⟩, r5, r6, r7, r8⟩ := id hr
  obtain ⟨m0, g0, b0, H0, S0, U0, L0, M0, A0⟩ := id hM
  have np5 := hG.1.2
  have no6 := hG.2.1.2
  have mm5 : ∀ i, i < no → (gQ G mn i).2.2.1 ≤ 5 := fun i hi => (hG.2.2 i (by omega)).2
  have hR : (R_cov q no (S.2 (i + 1)) (S.2 (i + 2))) = (R_cov (gQ G mn) no (S.2 (i + 1)) (S.2 (i + 2))) := R_cov_cong r7 _ _
  refine xs_f 1517 r_286_1516 rfl ?_
  refine xs_f 1518 r_286_1517 rfl ?_
  refine xs_f 1520 r_286_1518 rfl ?_
  refine xs_f 1521 r_286_1520 rfl ?_
  refine xs_f 1522 r_286_1521 rfl ?_
  refine xs_ald 1523 0 r_286_1522 (fun _ _ => rfl) rfl rfl rfl (j := (i + 1)) (nI_addE rfl (nI_k 1)) (xarr_r rfl rfl) rfl (by show _ < S.1; omega) (by show S.1 ≤ 65536; omega) rfl ?_
  refine xs_f 1524 r_286_1523 rfl ?_
  refine xs_f 1526 r_286_1524 rfl ?_
  refine xs_f 1527 r_286_1526 rfl ?_
  refine xs_f 1528 r_286_1527 rfl ?_
  refine xs_ald 1529 0 r_286_1528 (fun _ _ => rfl) rfl rfl rfl (j := (i + 2)) (nI_addE rfl (nI_k 2)) (xarr_r rfl rfl) rfl (by show _ < S.1; omega) (by show S.1 ≤ 65536; omega) rfl ?_
  refine xs_f 1530 r_286_1529 rfl ?_
  refine xs_call (lv2 := [(0, _), (1, _), (2, _), (3, _)]) r_286_1530 rfl rfl (by decide) (xcan_3 rfl rfl) rfl ?_
  refine xs_f 1 r_262_0 rfl ?_
  refine xs_f 2 r_262_1 rfl ?_
  refine xs_f 3 r_262_2 rfl ?_
  refine xs_f 4 r_262_3 rfl ?_
  refine xs_f 5 r_262_4 rfl ?_
  refine xs_call (lv2 := [(0, _), (1, _), (2, _)]) r_262_5 rfl rfl (by decide) (xcan_0 rfl rfl (by first | assumption | exact xup_s | exact o0 | exact m9 | (refine (xup_n (by omega)).trans ?_; first | assumption | exact xup_s | exact o0 | exact m9) | (refine (xup_n (by omega)).trans ((xup_n (by omega)).trans ?_); first | assumption | exact xup_s | exact o0 | exact m9) | (refine (xup_n (by omega)).trans ((xup_n (by omega)).trans ((xup_n (by omega)).trans ?_)); first | assumption | exact xup_s | exact o0 | exact m9)) (by rfl)) rfl (e_107 o0 hB (by omega) (fun z9 => ?_) (fun z9 => ?_) (fun z9 => ?_))
  · rw [hR] at z9
    have q9 : ((R_cov q no (S.2 (i + 1)) (S.2 (i + 2))) : XR).2 = (R_cov (gQ G mn) no (S.2 (i + 1)) (S.2 (i + 2))).2 := congrArg Prod.snd hR
    have c8 := hC
    have e8 : ∀ x, (x < 794 ∨ 804 ≤ x) → h.1 x = h.1 x := fun _ _ => rfl
    refine xK_v rfl ?_
    refine xs_f 9 r_262_8 rfl ?_
    refine xs_astL 10 r_262_9 (fun _ _ => rfl) rfl rfl rfl (j := 0) (nI_k 0) hO (by omega) (fun f1 O9 y1 => ?_)
    have z1 : ∀ x, x ≠ 818 → (x < 794 ∨ 804 ≤ x) → f1 x = h.1 x := fun x h1 h2 => (y1 x (by omega)).trans (e8 x h2)
    have e9 := z1
    have c9 := c8.fr (g := f1) (fun x h1 h2 => y1 x (by omega))
    have m9 := (e9 809 (by omega) (by omega)).trans m0
    have g9 := g0.fr (e9 _ (by omega) (by omega))
    have D9 := hD.fr (e9 _ (by omega) (by omega))
    have B9 : h.2 = h.2 ∨ h.2 = (xbump h).2 := Or.inl rfl
    refine xs_f 21 r_262_10 rfl ?_
    refine xs_f 22 r_262_21 rfl ?_
    refine xs_ret r_262_22 rfl ?_
    refine xK_v rfl ?_
    refine xs_f 1535 (lv2 := [(6, _), (0, _), (1, _), (2, _), (3, _), (4, _), (5, _)]) r_286_1533 rfl ?_
    refine xs_f 1536 r_286_1535 rfl ?_
    refine xs_f 1537 r_286_1536 rfl ?_
    refine xs_f 1539 r_286_1537 rfl ?_
    refine xs_f 1540 r_286_1539 rfl ?_
    refine xs_f 1541 r_286_1540 rfl ?_
    refine xs_ald 1542 0 r_286_1541 (fun _ _ => rfl) rfl rfl rfl (j := (i + 1)) (nI_addE rfl (nI_k 1)) (xarr_r rfl rfl) rfl (by show _ < S.1; omega) (by show S.1 ≤ 65536; omega) rfl ?_
    refine xs_f 1543 r_286_1542 rfl ?_
    refine xs_f 1545 r_286_1543 rfl ?_
    refine xs_f 1546 r_286_1545 rfl ?_
    refine xs_f 1547 r_286_1546 rfl ?_
    refine xs_ald 1548 0 r_286_1547 (fun _ _ => rfl) rfl rfl rfl (j := (i + 2)) (nI_addE rfl (nI_k 2)) (xarr_r rfl rfl) rfl (by show _ < S.1; omega) (by show S.1 ≤ 65536; omega) rfl ?_
    refine xs_call (lv2 := [(0, _), (1, _), (2, _)]) r_286_1548 rfl rfl (by decide) (xcan_0 rfl rfl (by first | assumption | exact o0 | exact m9) (by rfl)) rfl (m_199 m9 g9 hG (by omega) (fun f2 x2 y2 => ?_))
    refine xK_v rfl ?_
    refine xs_f 1553 (lv2 := [(7, _), (6, _), (0, _), (1, _), (2, _), (3, _), (4, _), (5, _)]) r_286_1551 rfl ?_
    refine xs_f 1554 r_286_1553 rfl ?_
    refine xs_call (lv2 := [(0, _)]) r_286_1554 rfl rfl (by decide) (xcan_0 rfl rfl x2 (by rfl)) rfl ?_
    refine xs_f 1 r_149_0 rfl ?_
    refine xs_get 4 r_149_1 rfl rfl x2 (by rfl) ?_
    refine xs_ret r_149_4 rfl ?_
    refine xK_v rfl ?_
    refine xs_f 1559 r_286_1557 rfl ?_
    refine xs_if 1564 1562 r_286_1559 rfl (fun hth => ?_) (fun hth => ?_)
    · refine xs_f 1566 r_286_1564 rfl ?_
      refine xs_f 1569 r_286_1566 rfl ?_
      refine xs_f 1570 r_286_1569 rfl ?_
      refine xs_f 1571 r_286_1570 rfl ?_
      refine xs_aldL 1572 r_286_1571 (fun _ _ => rfl) rfl rfl rfl (j := 0) (nI_k 0) (O9.fr (y2 _ (by omega))) (by omega) ?_
      rw [xw_s]
      refine xs_f 1574 r_286_1572 rfl ?_
      refine xs_f 1575 r_286_1574 rfl ?_
      refine xs_f 1576 r_286_1575 rfl ?_
      refine xs_if 1581 1579 r_286_1576 rfl (fun hl => ?_) (fun hl => ?_)
      · refine xs_f 2897 r_286_1581 rfl ?_
        exact xP_lv [(0, .ref 12), (1, .ref 32), (2, .ref 809), (3, .ref 818), (4, .ref 819), (5, .int (nI i))] rfl ⟨rfl, rfl, rfl, rfl, rfl, rfl, trivial⟩ (k _ (hP.q (h2 := (f2, _)) (fun x h1 h2 h3 h4 => (y2 x (by omega)).trans (e9 x h2 h4)) ⟨_, _, _, x2⟩ ⟨_, O9.fr (y2 _ (by omega))⟩ (D9.fr (y2 _ (by omega))) ⟨_, _, _, c9.fr (fun x h1 h2 => y2 x (by omega))⟩ B9))
      · exact absurd (by rw [q9]; exact lg_cmp_r _) hl
    · exact absurd (by first | exact congrArg nI z9 | rfl) hth
  · rw [hR] at z9
    have c9 := hC
    have O9 := hO
    have D9 := hD
    have e9 : ∀ x, x ≠ 818 → (x < 794 ∨ 804 ≤ x) → (xbump h).1 x = h.1 x := fun _ _ _ => rfl
    have m9 := (e9 809 (by omega) (by omega)).trans m0
    have g9 := g0.fr (e9 _ (by omega) (by omega))
    have B9 : (xbump h).2 = h.2 ∨ (xbump h).2 = (xbump h).2 := Or.inr rfl
    refine xK_c (lv2 := [(0, _), (1, _), (2, _), (3, _)]) rfl rfl rfl rfl ?_
    refine xs_f 16 r_262_15 rfl ?_
    refine xs_ret r_262_16 rfl ?_
    refine xK_v rfl ?_
    refine xs_f 1535 (lv2 := [(6, _), (0, _), (1, _), (2, _), (3, _), (4, _), (5, _)]) r_286_1533 rfl ?_
    refine xs_f 1536 r_286_1535 rfl ?_
    refine xs_f 1537 r_286_1536 rfl ?_
    refine xs_f 1539 r_286_1537 rfl ?_
    refine xs_f 1540 r_286_1539 rfl ?_
    refine xs_f 1541 r_286_1540 rfl ?_
    refine xs_ald 1542 0 r_286_1541 (fun _ _ => rfl) rfl rfl rfl (j := (i + 1)) (nI_addE rfl (nI_k 1)) (xarr_r rfl rfl) rfl (by show _ < S.1; omega) (by show S.1 ≤ 65536; omega) rfl ?_
    refine xs_f 1543 r_286_1542 rfl ?_
    refine xs_f 1545 r_286_1543 rfl ?_
    refine xs_f 1546 r_286_1545 rfl ?_
    refine xs_f 1547 r_286_1546 rfl ?_
    refine xs_ald 1548 0 r_286_1547 (fun _ _ => rfl) rfl rfl rfl (j := (i + 2)) (nI_addE rfl (nI_k 2)) (xarr_r rfl rfl) rfl (by show _ < S.1; omega) (by show S.1 ≤ 65536; omega) rfl ?_
    refine xs_call (lv2 := [(0, _), (1, _), (2, _)]) r_286_1548 rfl rfl (by decide) (xcan_0 rfl rfl (by first | assumption | exact o0 | exact m9) (by rfl)) rfl (m_199 m9 g9 hG (by omega) (fun f2 x2 y2 => ?_))
    refine xK_v rfl ?_
    refine xs_f 1553 (lv2 := [(7, _), (6, _), (0, _), (1, _), (2, _), (3, _), (4, _), (5, _)]) r_286_1551 rfl ?_
    refine xs_f 1554 r_286_1553 rfl ?_
    refine xs_call (lv2 := [(0, _)]) r_286_1554 rfl rfl (by decide) (xcan_0 rfl rfl x2 (by rfl)) rfl ?_
    refine xs_f 1 r_149_0 rfl ?_
    refine xs_get 4 r_149_1 rfl rfl x2 (by rfl) ?_
    refine xs_ret r_149_4 rfl ?_
    refine xK_v rfl ?_
    refine xs_f 1559 r_286_1557 rfl ?_
    refine xs_if 1564 1562 r_286_1559 rfl (fun hth => ?_) (fun hth => ?_)
    · refine xs_f 1566 r_286_1564 rfl ?_
      refine xs_f 1581 r_286_1566 rfl ?_
      refine xs_f 2897 r_286_1581 rfl ?_
      exact xP_lv [(0, .ref 12), (1, .ref 32), (2, .ref 809), (3, .ref 818), (4, .ref 819), (5, .int (nI i))] rfl ⟨rfl, rfl, rfl, rfl, rfl, rfl, trivial⟩ (k _ (hP.q (h2 := (f2, _)) (fun x h1 h2 h3 h4 => (y2 x (by omega)).trans (e9 x h2 h4)) ⟨_, _, _, x2⟩ ⟨_, O9.fr (y2 _ (by omega))⟩ (D9.fr (y2 _ (by omega))) ⟨_, _, _, c9.fr (fun x h1 h2 => y2 x (by omega))⟩ B9))
    · exact absurd (by first | exact congrArg nI z9 | rfl) hth
  · rw [hR] at z9
    have c9 := hC
    have O9 := hO
    have D9 := hD
    have e9 : ∀ x, x ≠ 818 → (x < 794 ∨ 804 ≤ x) → (xbump h).1 x = h.1 x := fun _ _ _ => rfl
    have m9 := (e9 809 (by omega) (by omega)).trans m0
    have g9 := g0.fr (e9 _ (by omega) (by omega))
    have B9 : (xbump h).2 = h.2 ∨ (xbump h).2 = (xbump h).2 := Or.inr rfl
    refine xK_c (lv2 := [(0, _), (1, _), (2, _), (3, _)]) rfl rfl rfl rfl ?_
    refine xs_f 20 r_262_19 rfl ?_
    refine xs_ret r_262_20 rfl ?_
    refine xK_v rfl ?_
    refine xs_f 1535 (lv2 := [(6, _), (0, _), (1, _), (2, _), (3, _), (4, _), (5, _)]) r_286_1533 rfl ?_
    refine xs_f 1536 r_286_1535 rfl ?_
    refine xs_f 1537 r_286_1536 rfl ?_
    refine xs_f 1539 r_286_1537 rfl ?_
    refine xs_f 1540 r_286_1539 rfl ?_
    refine xs_f 1541 r_286_1540 rfl ?_
    refine xs_ald 1542 0 r_286_1541 (fun _ _ => rfl) rfl rfl rfl (j := (i + 1)) (nI_addE rfl (nI_k 1)) (xarr_r rfl rfl) rfl (by show _ < S.1; omega) (by show S.1 ≤ 65536; omega) rfl ?_
    refine xs_f 1543 r_286_1542 rfl ?_
    refine xs_f 1545 r_286_1543 rfl ?_
    refine xs_f 1546 r_286_1545 rfl ?_
    refine xs_f 1547 r_286_1546 rfl ?_
    refine xs_ald 1548 0 r_286_1547 (fun _ _ => rfl) rfl rfl rfl (j := (i + 2)) (nI_addE rfl (nI_k 2)) (xarr_r rfl rfl) rfl (by show _ < S.1; omega) (by show S.1 ≤ 65536; omega) rfl ?_
    refine xs_call (lv2 := [(0, _), (1, _), (2, _)]) r_286_1548 rfl rfl (by decide) (xcan_0 rfl rfl (by first | assumption | exact o0 | exact m9) (by rfl)) rfl (m_199 m9 g9 hG (by omega) (fun f2 x2 y2 => ?_))
    refine xK_v rfl ?_
    refine xs_f 1553 (lv2 := [(7, _), (6, _), (0, _), (1, _), (2, _), (3, _), (4, _), (5, _)]) r_286_1551 rfl ?_
    refine xs_f 1554 r_286_1553 rfl ?_
    refine xs_call (lv2 := [(0, _)]) r_286_1554 rfl rfl (by decide) (xcan_0 rfl rfl x2 (by rfl)) rfl ?_
    refine xs_f 1 r_149_0 rfl ?_
    refine xs_get 4 r_149_1 rfl rfl x2 (by rfl) ?_
    refine xs_ret r_149_4 rfl ?_
    refine xK_v rfl ?_
    refine xs_f 1559 r_286_1557 rfl ?_
    refine xs_if 1564 1562 r_286_1559 rfl (fun hth => ?_) (fun hth => ?_)
    · refine xs_f 1566 r_286_1564 rfl ?_
      refine xs_f 1581 r_286_1566 rfl ?_
      refine xs_f 2897 r_286_1581 rfl ?_
      exact xP_lv [(0, .ref 12), (1, .ref 32), (2, .ref 809), (3, .ref 818), (4, .ref 819), (5, .int (nI i))] rfl ⟨rfl, rfl, rfl, rfl, rfl, rfl, trivial⟩ (k _ (hP.q (h2 := (f2, _)) (fun x h1 h2 h3 h4 => (y2 x (by omega)).trans (e9 x h2 h4)) ⟨_, _, _, x2⟩ ⟨_, O9.fr (y2 _ (by omega))⟩ (D9.fr (y2 _ (by omega))) ⟨_, _, _, c9.fr (fun x h1 h2 => y2 x (by omega))⟩ B9))
    · exact absurd (by first | exact congrArg nI z9 | rfl) hth

