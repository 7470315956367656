/-! the law: questions, 3 -/
theorem lw_24 {S : XSc} {d : Nat} {h : XH} {Q : XO → XH → Prop} {i c : Nat} (hi : i + 7 ≤ S.1) (hL : S.1 ≤ 3584) (hc : c ≤ 511) (hI : LwI h c) (k : ∀ h2, LwI h2 (c + 1) → xP S (d + 14) 286 2897 [(0, .ref 12), (1, .ref 32), (2, .ref 809), (3, .ref 818), (4, .ref 819), (5, .int (nI i))] [] h2 Q) : xP S (d + 14) 286 1584 [(0, .ref 12), (1, .ref 32), (2, .ref 809), (3, .ref 818), (4, .ref 819), (5, .int (nI i))] [] h Q := by
  obtain ⟨H, Sv, pos, ch, sv, K, ea, fa, G, tn, Bu, on, Le, hP⟩ := hI
  obtain ⟨hX, hS, ⟨W, lo, hi2, hC⟩, ⟨p0, cc0, nu0, hT⟩, hZ, ⟨B, Mo, Pa, th, sp, wr, hM⟩, ⟨w0, hO⟩, hD, ⟨hK, h8, ht, hon⟩, hcn⟩ := id hP
  obtain ⟨o0, hHi, hSv, G8, hG8⟩ := id hX
  obtain ⟨mn, np, no, nn, N, sc, ho, TS, TH, tr, pl, q, s, R, hB, hr, hk, hN, hs⟩ := id hS
  obtain ⟨hG, ⟨r2, r3, r4⟩, r5, r6, r7, r8⟩ := id hr
  obtain ⟨m0, g0, b0, H0, S0, U0, L0, M0, A0⟩ := id hM
  have np5 := hG.1.2
  have no6 := hG.2.1.2
  have mm5 : ∀ i, i < no → (gQ G mn i).2.2.1 ≤ 5 := fun i hi => (hG.2.2 i (by omega)).2
  obtain ⟨L, U, hE⟩ := ends_of hk
  have hR : (R_mst q no (S.2 (i + 1))) = (R_mst (gQ G mn) no (S.2 (i + 1))) := R_mst_cong r7 _
  refine xs_f 1585 r_286_1584 rfl ?_
  refine xs_f 1586 r_286_1585 rfl ?_
  refine xs_f 1588 r_286_1586 rfl ?_
  refine xs_f 1589 r_286_1588 rfl ?_
  refine xs_f 1590 r_286_1589 rfl ?_
  refine xs_ald 1591 0 r_286_1590 (fun _ _ => rfl) rfl rfl rfl (j := (i + 1)) (nI_addE rfl (nI_k 1)) (xarr_r rfl rfl) rfl (by show _ < S.1; omega) (by show S.1 ≤ 65536; omega) rfl ?_
  refine xs_f 1592 r_286_1591 rfl ?_
  refine xs_call (lv2 := [(0, _), (1, _), (2, _)]) r_286_1592 rfl rfl (by decide) (xcan_3 rfl rfl) rfl ?_
  refine xs_f 1 r_263_0 rfl ?_
  refine xs_f 2 r_263_1 rfl ?_
  refine xs_f 3 r_263_2 rfl ?_
  refine xs_f 4 r_263_3 rfl ?_
  refine xs_call (lv2 := [(0, _), (1, _)]) r_263_4 rfl rfl (by decide) (xcan_0 rfl rfl (by first | assumption | exact xup_s | exact o0 | exact m9 | (refine (xup_n (by omega)).trans ?_; first | assumption | exact xup_s | exact o0 | exact m9) | (refine (xup_n (by omega)).trans ((xup_n (by omega)).trans ?_); first | assumption | exact xup_s | exact o0 | exact m9) | (refine (xup_n (by omega)).trans ((xup_n (by omega)).trans ((xup_n (by omega)).trans ?_)); first | assumption | exact xup_s | exact o0 | exact m9)) (by rfl)) rfl (e_108 o0 hB (by omega) hC (by omega) hE (fun f8 W8 lo8 hi8 c8 y8 z9 => ?_) (fun z9 => ?_))
  · rw [hR] at z9
    have q9 : ((R_mst q no (S.2 (i + 1))) : XR).2 = (R_mst (gQ G mn) no (S.2 (i + 1))).2 := congrArg Prod.snd hR
    have e8 : ∀ x, (x < 794 ∨ 804 ≤ x) → f8 x = h.1 x := fun x hx => y8 x (by omega)
    refine xK_v rfl ?_
    refine xs_f 8 r_263_7 rfl ?_
    refine xs_astL 9 r_263_8 (fun _ _ => rfl) rfl rfl rfl (j := 0) (nI_k 0) (hO.fr (y8 _ (by omega))) (by omega) (fun f1 O9 y1 => ?_)
    have z1 : ∀ x, x ≠ 818 → (x < 794 ∨ 804 ≤ x) → f1 x = h.1 x := fun x h1 h2 => (y1 x (by omega)).trans (e8 x h2)
    have e9 := z1
    have c9 := c8.fr (g := f1) (fun x h1 h2 => y1 x (by omega))
    have m9 := (e9 809 (by omega) (by omega)).trans m0
    have g9 := g0.fr (e9 _ (by omega) (by omega))
    have D9 := hD.fr (e9 _ (by omega) (by omega))
    have B9 : h.2 = h.2 ∨ h.2 = (xbump h).2 := Or.inl rfl
    refine xs_f 15 r_263_9 rfl ?_
    refine xs_f 16 r_263_15 rfl ?_
    refine xs_ret r_263_16 rfl ?_
    refine xK_v rfl ?_
    refine xs_f 1597 (lv2 := [(6, _), (0, _), (1, _), (2, _), (3, _), (4, _), (5, _)]) r_286_1595 rfl ?_
    refine xs_f 1598 r_286_1597 rfl ?_
    refine xs_f 1599 r_286_1598 rfl ?_
    refine xs_f 1601 r_286_1599 rfl ?_
    refine xs_f 1602 r_286_1601 rfl ?_
    refine xs_f 1603 r_286_1602 rfl ?_
    refine xs_ald 1604 0 r_286_1603 (fun _ _ => rfl) rfl rfl rfl (j := (i + 1)) (nI_addE rfl (nI_k 1)) (xarr_r rfl rfl) rfl (by show _ < S.1; omega) (by show S.1 ≤ 65536; omega) rfl ?_
    refine xs_call (lv2 := [(0, _), (1, _)]) r_286_1604 rfl rfl (by decide) (xcan_0 rfl rfl (by first | assumption | exact o0 | exact m9) (by rfl)) rfl (m_200 m9 g9 hG (by omega) (fun f2 x2 y2 => ?_))
    refine xK_v rfl ?_
    refine xs_f 1609 (lv2 := [(7, _), (6, _), (0, _), (1, _), (2, _), (3, _), (4, _), (5, _)]) r_286_1607 rfl ?_
    refine xs_f 1610 r_286_1609 rfl ?_
    refine xs_call (lv2 := [(0, _)]) r_286_1610 rfl rfl (by decide) (xcan_0 rfl rfl x2 (by rfl)) rfl ?_
    refine xs_f 1 r_149_0 rfl ?_
    refine xs_get 4 r_149_1 rfl rfl x2 (by rfl) ?_
    refine xs_ret r_149_4 rfl ?_
    refine xK_v rfl ?_
    refine xs_f 1615 r_286_1613 rfl ?_
    refine xs_if 1620 1618 r_286_1615 rfl (fun hth => ?_) (fun hth => ?_)
    · refine xs_f 1622 r_286_1620 rfl ?_
      refine xs_f 1625 r_286_1622 rfl ?_
      refine xs_f 1626 r_286_1625 rfl ?_
      refine xs_f 1627 r_286_1626 rfl ?_
      refine xs_aldL 1628 r_286_1627 (fun _ _ => rfl) rfl rfl rfl (j := 0) (nI_k 0) (O9.fr (y2 _ (by omega))) (by omega) ?_
      rw [xw_s]
      refine xs_f 1630 r_286_1628 rfl ?_
      refine xs_f 1631 r_286_1630 rfl ?_
      refine xs_f 1632 r_286_1631 rfl ?_
      refine xs_if 1637 1635 r_286_1632 rfl (fun hl => ?_) (fun hl => ?_)
      · refine xs_f 2897 r_286_1637 rfl ?_
        exact xP_lv [(0, .ref 12), (1, .ref 32), (2, .ref 809), (3, .ref 818), (4, .ref 819), (5, .int (nI i))] rfl ⟨rfl, rfl, rfl, rfl, rfl, rfl, trivial⟩ (k _ (hP.q (h2 := (f2, _)) (fun x h1 h2 h3 h4 => (y2 x (by omega)).trans (e9 x h2 h4)) ⟨_, _, _, x2⟩ ⟨_, O9.fr (y2 _ (by omega))⟩ (D9.fr (y2 _ (by omega))) ⟨_, _, _, c9.fr (fun x h1 h2 => y2 x (by omega))⟩ B9))
      · exact absurd (by rw [q9]; exact lg_cmp_r _) hl
    · exact absurd (by first | exact congrArg nI z9 | rfl) hth
  · rw [hR] at z9
    have c9 := hC
    have O9 := hO
    have D9 := hD
    have e9 : ∀ x, x ≠ 818 → (x < 794 ∨ 804 ≤ x) → (xbump h).1 x = h.1 x := fun _ _ _ => rfl
    have m9 := (e9 809 (by omega) (by omega)).trans m0
    have g9 := g0.fr (e9 _ (by omega) (by omega))
    have B9 : (xbump h).2 = h.2 ∨ (xbump h).2 = (xbump h).2 := Or.inr rfl
    refine xK_c (lv2 := [(0, _), (1, _), (2, _)]) rfl rfl rfl rfl ?_
    refine xs_f 14 r_263_13 rfl ?_
    refine xs_ret r_263_14 rfl ?_
    refine xK_v rfl ?_
    refine xs_f 1597 (lv2 := [(6, _), (0, _), (1, _), (2, _), (3, _), (4, _), (5, _)]) r_286_1595 rfl ?_
    refine xs_f 1598 r_286_1597 rfl ?_
    refine xs_f 1599 r_286_1598 rfl ?_
    refine xs_f 1601 r_286_1599 rfl ?_
    refine xs_f 1602 r_286_1601 rfl ?_
    refine xs_f 1603 r_286_1602 rfl ?_
    refine xs_ald 1604 0 r_286_1603 (fun _ _ => rfl) rfl rfl rfl (j := (i + 1)) (nI_addE rfl (nI_k 1)) (xarr_r rfl rfl) rfl (by show _ < S.1; omega) (by show S.1 ≤ 65536; omega) rfl ?_
    refine xs_call (lv2 := [(0, _), (1, _)]) r_286_1604 rfl rfl (by decide) (xcan_0 rfl rfl (by first | assumption | exact o0 | exact m9) (by rfl)) rfl (m_200 m9 g9 hG (by omega) (fun f2 x2 y2 => ?_))
    refine xK_v rfl ?_
    refine xs_f 1609 (lv2 := [(7, _), (6, _), (0, _), (1, _), (2, _), (3, _), (4, _), (5, _)]) r_286_1607 rfl ?_
    refine xs_f 1610 r_286_1609 rfl ?_
    refine xs_call (lv2 := [(0, _)]) r_286_1610 rfl rfl (by decide) (xcan_0 rfl rfl x2 (by rfl)) rfl ?_
    refine xs_f 1 r_149_0 rfl ?_
    refine xs_get 4 r_149_1 rfl rfl x2 (by rfl) ?_
    refine xs_ret r_149_4 rfl ?_
    refine xK_v rfl ?_
    refine xs_f 1615 r_286_1613 rfl ?_
    refine xs_if 1620 1618 r_286_1615 rfl (fun hth => ?_) (fun hth => ?_)
    · refine xs_f 1622 r_286_1620 rfl ?_
      refine xs_f 1637 r_286_1622 rfl ?_
      refine xs_f 2897 r_286_1637 rfl ?_
      exact xP_lv [(0, .ref 12), (1, .ref 32), (2, .ref 809), (3, .ref 818), (4, .ref 819), (5, .int (nI i))] rfl ⟨rfl, rfl, rfl, rfl, rfl, rfl, trivial⟩ (k _ (hP.q (h2 := (f2, _)) (fun x h1 h2 h3 h4 => (y2 x (by omega)).trans (e9 x h2 h4)) ⟨_, _, _, x2⟩ ⟨_, O9.fr (y2 _ (by omega))⟩ (D9.fr (y2 _ (by omega))) ⟨_, _, _, c9.fr (fun x h1 h2 => y2 x (by omega))⟩ B9))
    · exact absurd (by first | exact congrArg nI z9 | rfl) hth

theorem lw_25 {S : XSc} {d : Nat} {h : XH} {Q : XO → XH → Prop} {i c : Nat} (hi : i + 7 ≤ S.1) (hL : S.1 ≤ 3584) (hc : c ≤ 511) (hI : LwI h c) (k : ∀ h2, LwI h2 (c + 1) → xP S (d + 14) 286 2897 [(0, .ref 12), (1, .ref 32), (2, .ref 809), (3, .ref 818), (4, .ref 819), (5, .int (nI i))] [] h2 Q) : xP S (d + 14) 286 1640 [(0, .ref 12), (1, .ref 32), (2, .ref 809), (3, .ref 818), (4, .ref 819), (5, .int (nI i))] [] h Q := by
  obtain ⟨H, Sv, pos, ch, sv, K, ea, fa, G, tn, Bu, on, Le, hP⟩ := hI
  obtain ⟨hX, hS, ⟨W, lo, hi2, hC⟩, ⟨p0, cc0, nu0, hT⟩, hZ, ⟨B, Mo, Pa, th, sp, wr, hM⟩, ⟨w0, hO⟩, hD, ⟨hK, h8, ht, hon⟩, hcn⟩ := id hP
  obtain ⟨o0, hHi, hSv, G8, hG8⟩ := id hX
  obtain ⟨mn, np, no, nn, N, sc, ho, TS, TH, tr, pl, q, s, R, hB, hr, hk, hN, hs⟩ := id hS
  obtain ⟨hG, ⟨r2, r3, r4⟩, r5, r6, r7, r8⟩ := id hr
  obtain ⟨m0, g0, b0, H0, S0, U0, L0, M0, A0⟩ := id hM
  have np5 := hG.1.2
  have no6 := hG.2.1.2
  have mm5 : ∀ i, i < no → (gQ G mn i).2.2.1 ≤ 5 := fun i hi => (hG.2.2 i (by omega)).2
  obtain ⟨L, U, hE⟩ := ends_of hk
  have hR : (R_mst q no (S.2 (i + 1))) = (R_mst (gQ G mn) no (S.2 (i + 1))) := R_mst_cong r7 _
  refine xs_f 1641 r_286_1640 rfl ?_
  refine xs_f 1642 r_286_1641 rfl ?_
  refine xs_f 1644 r_286_1642 rfl ?_
  refine xs_f 1645 r_286_1644 rfl ?_
  refine xs_f 1646 r_286_1645 rfl ?_
  refine xs_ald 1647 0 r_286_1646 (fun _ _ => rfl) rfl rfl rfl (j := (i + 1)) (nI_addE rfl (nI_k 1)) (xarr_r rfl rfl) rfl (by show _ < S.1; omega) (by show S.1 ≤ 65536; omega) rfl ?_
  refine xs_f 1648 r_286_1647 rfl ?_
  refine xs_call (lv2 := [(0, _), (1, _), (2, _)]) r_286_1648 rfl rfl (by decide) (xcan_3 rfl rfl) rfl ?_
  refine xs_f 1 r_264_0 rfl ?_
  refine xs_f 2 r_264_1 rfl ?_
  refine xs_f 3 r_264_2 rfl ?_
  refine xs_f 4 r_264_3 rfl ?_
  refine xs_call (lv2 := [(0, _), (1, _)]) r_264_4 rfl rfl (by decide) (xcan_0 rfl rfl (by first | assumption | exact xup_s | exact o0 | exact m9 | (refine (xup_n (by omega)).trans ?_; first | assumption | exact xup_s | exact o0 | exact m9) | (refine (xup_n (by omega)).trans ((xup_n (by omega)).trans ?_); first | assumption | exact xup_s | exact o0 | exact m9) | (refine (xup_n (by omega)).trans ((xup_n (by omega)).trans ((xup_n (by omega)).trans ?_)); first | assumption | exact xup_s | exact o0 | exact m9)) (by rfl)) rfl (e_109 o0 hB (by omega) hC (by omega) hE (fun f8 W8 lo8 hi8 c8 y8 z9 => ?_) (fun z9 => ?_))
  · rw [hR] at z9
    have q9 : ((R_mst q no (S.2 (i + 1))) : XR).2 = (R_mst (gQ G mn) no (S.2 (i + 1))).2 := congrArg Prod.snd hR
    have e8 : ∀ x, (x < 794 ∨ 804 ≤ x) → f8 x = h.1 x := fun x hx => y8 x (by omega)
    refine xK_v rfl ?_
    refine xs_f 8 r_264_7 rfl ?_
    refine xs_astL 9 r_264_8 (fun _ _ => rfl) rfl rfl rfl (j := 0) (nI_k 0) (hO.fr (y8 _ (by omega))) (by omega) (fun f1 O9 y1 => ?_)
    have z1 : ∀ x, x ≠ 818 → (x < 794 ∨ 804 ≤ x) → f1 x = h.1 x := fun x h1 h2 => (y1 x (by omega)).trans (e8 x h2)
    have e9 := z1
    have c9 := c8.fr (g := f1) (fun x h1 h2 => y1 x (by omega))
    have m9 := (e9 809 (by omega) (by omega)).trans m0
    have g9 := g0.fr (e9 _ (by omega) (by omega))
    have D9 := hD.fr (e9 _ (by omega) (by omega))
    have B9 : h.2 = h.2 ∨ h.2 = (xbump h).2 := Or.inl rfl
    refine xs_f 15 r_264_9 rfl ?_
    refine xs_f 16 r_264_15 rfl ?_
    refine xs_ret r_264_16 rfl ?_
    refine xK_v rfl ?_
    refine xs_f 1653 (lv2 := [(6, _), (0, _), (1, _), (2, _), (3, _), (4, _), (5, _)]) r_286_1651 rfl ?_
    refine xs_f 1654 r_286_1653 rfl ?_
    refine xs_f 1655 r_286_1654 rfl ?_
    refine xs_f 1657 r_286_1655 rfl ?_
    refine xs_f 1658 r_286_1657 rfl ?_
    refine xs_f 1659 r_286_1658 rfl ?_
    refine xs_ald 1660 0 r_286_1659 (fun _ _ => rfl) rfl rfl rfl (j := (i + 1)) (nI_addE rfl (nI_k 1)) (xarr_r rfl rfl) rfl (by show _ < S.1; omega) (by show S.1 ≤ 65536; omega) rfl ?_
    refine xs_call (lv2 := [(0, _), (1, _)]) r_286_1660 rfl rfl (by decide) (xcan_0 rfl rfl (by first | assumption | exact o0 | exact m9) (by rfl)) rfl (m_201 m9 g9 hG (by omega) (fun f2 x2 y2 => ?_))
    refine xK_v rfl ?_
    refine xs_f 1665 (lv2 := [(7, _), (6, _), (0, _), (1, _), (2, _), (3, _), (4, _), (5, _)]) r_286_1663 rfl ?_
    refine xs_f 1666 r_286_1665 rfl ?_
    refine xs_call (lv2 := [(0, _)]) r_286_1666 rfl rfl (by decide) (xcan_0 rfl rfl x2 (by rfl)) rfl ?_
    refine xs_f 1 r_149_0 rfl ?_
    refine xs_get 4 r_149_1 rfl rfl x2 (by rfl) ?_
    refine xs_ret r_149_4 rfl ?_
    refine xK_v rfl ?_
    refine xs_f 1671 r_286_1669 rfl ?_
    refine xs_if 1676 1674 r_286_1671 rfl (fun hth => ?_) (fun hth => ?_)
    · refine xs_f 1678 r_286_1676 rfl ?_
      refine xs_f 1681 r_286_1678 rfl ?_
      refine xs_f 1682 r_286_1681 rfl ?_
      refine xs_f 1683 r_286_1682 rfl ?_
      refine xs_aldL 1684 r_286_1683 (fun _ _ => rfl) rfl rfl rfl (j := 0) (nI_k 0) (O9.fr (y2 _ (by omega))) (by omega) ?_
      rw [xw_s]
      refine xs_f 1686 r_286_1684 rfl ?_
      refine xs_f 1687 r_286_1686 rfl ?_
      refine xs_f 1688 r_286_1687 rfl ?_
      refine xs_if 1693 1691 r_286_1688 rfl (fun hl => ?_) (fun hl => ?_)
      · refine xs_f 2897 r_286_1693 rfl ?_
        exact xP_lv [(0, .ref 12), (1, .ref 32), (2, .ref 809), (3, .ref 818), (4, .ref 819), (5, .int (nI i))] rfl ⟨rfl, rfl, rfl, rfl, rfl, rfl, trivial⟩ (k _ (hP.q (h2 := (f2, _)) (fun x h1 h2 h3 h4 => (y2 x (by omega)).trans (e9 x h2 h4)) ⟨_, _, _, x2⟩ ⟨_, O9.fr (y2 _ (by omega))⟩ (D9.fr (y2 _ (by omega))) ⟨_, _, _, c9.fr (fun x h1 h2 => y2 x (by omega))⟩ B9))
      · exact absurd (by rw [q9]; exact lg_cmp_r _) hl
    · exact absurd (by first | exact congrArg nI z9 | rfl) hth
  · rw [hR] at z9
    have c9 := hC
    have O9 := hO
    have D9 := hD
    have e9 : ∀ x, x ≠ 818 → (x < 794 ∨ 804 ≤ x) → (xbump h).1 x = h.1 x := fun _ _ _ => rfl
    have m9 := (e9 809 (by omega) (by omega)).trans m0
    have g9 := g0.fr (e9 _ (by omega) (by omega))
    have B9 : (xbump h).2 = h.2 ∨ (xbump h).2 = (xbump h).2 := Or.inr rfl
    refine xK_c (lv2 := [(0, _), (1, _), (2, _)]) rfl rfl rfl rfl ?_
    refine xs_f 14 r_264_13 rfl ?_
    refine xs_ret r_264_14 rfl ?_
    refine xK_v rfl ?_
    refine xs_f 1653 (lv2 := [(6, _), (0, _), (1, _), (2, _), (3, _), (4, _), (5, _)]) r_286_1651 rfl ?_
    refine xs_f 1654 r_286_1653 rfl ?_
    refine xs_f 1655 r_286_1654 rfl ?_
    refine xs_f 1657 r_286_1655 rfl ?_
    refine xs_f 1658 r_286_1657 rfl ?_
    refine xs_f 1659 r_286_1658 rfl ?_
    refine xs_ald 1660 0 r_286_1659 (fun _ _ => rfl) rfl rfl rfl (j := (i + 1)) (nI_addE rfl (nI_k 1)) (xarr_r rfl rfl) rfl (by show _ < S.1; omega) (by show S.1 ≤ 65536; omega) rfl ?_
    refine xs_call (lv2 := [(0, _), (1, _)]) r_286_1660 rfl rfl (by decide) (xcan_0 rfl rfl (by first | assumption | exact o0 | exact m9) (by rfl)) rfl (m_201 m9 g9 hG (by omega) (fun f2 x2 y2 => ?_))
    refine xK_v rfl ?_
    refine xs_f 1665 (lv2 := [(7, _), (6, _), (0, _), (1, _), (2, _), (3, _), (4, _), (5, _)]) r_286_1663 rfl ?_
    refine xs_f 1666 r_286_1665 rfl ?_
    refine xs_call (lv2 := [(0, _)]) r_286_1666 rfl rfl (by decide) (xcan_0 rfl rfl x2 (by rfl)) rfl ?_
    refine xs_f 1 r_149_0 rfl ?_
    refine xs_get 4 r_149_1 rfl rfl x2 (by rfl) ?_
    refine xs_ret r_149_4 rfl ?_
    refine xK_v rfl ?_
    refine xs_f 1671 r_286_1669 rfl ?_
    refine xs_if 1676 1674 r_286_1671 rfl (fun hth => ?_) (fun hth => ?_)
    · refine xs_f 1678 r_286_1676 rfl ?_
      refine xs_f 1693 r_286_1678 rfl ?_
      refine xs_f 2897 r_286_1693 rfl ?_
      exact xP_lv [(0, .ref 12), (1, .ref 32), (2, .ref 809), (3, .ref 818), (4, .ref 819), (5, .int (nI i))] rfl ⟨rfl, rfl, rfl, rfl, rfl, rfl, trivial⟩ (k _ (hP.q (h2 := (f2, _)) (fun x h1 h2 h3 h4 => (y2 x (by omega)).trans (e9 x h2 h4)) ⟨_, _, _, x2⟩ ⟨_, O9.fr (y2 _ (by omega))⟩ (D9.fr (y2 _ (by omega))) ⟨_, _, _, c9.fr (fun x h1 h2 => y2 x (by omega))⟩ B9))
    · exact absurd (by first | exact congrArg nI z9 | rfl) hth

theorem lw_26 {S : XSc} {d : Nat} {h : XH} {Q : XO → XH → Prop} {i c : Nat} (hi : i + 7 ≤ S.1) (hL : S.1 ≤ 3584) (hc : c ≤ 511) (hI : LwI h c) (k : ∀ h2, LwI h2 (c + 1) → xP S (d + 14) 286 2897 [(0, .ref 12), (1, .ref 32), (2, .ref 809), (3, .ref 818), (4, .ref 819), (5, .int (nI i))] [] h2 Q) : xP S (d + 14) 286 1696 [(0, .ref 12), (1, .ref 32), (2, .ref 809), (3, .ref 818), (4, .ref 819), (5, .int (nI i))] [] h Q := by
  obtain ⟨H, Sv, pos, ch, sv, K, ea, fa, G, tn, Bu, on, Le, hP⟩ := hI
  obtain ⟨hX, hS, ⟨W, lo, hi2, hC⟩, ⟨p0, cc0, nu0, hT⟩, hZ, ⟨B, Mo, Pa, th, sp, wr, hM⟩, ⟨w0, hO⟩, hD, ⟨hK, h8, ht, hon⟩, hcn⟩ := id hP
  obtain ⟨o0, hHi, hSv, G8, hG8⟩ := id hX
  obtain ⟨mn, np, no, nn, N, sc, ho, TS, TH, tr, pl, q, s, R, hB, hr, hk, hN, hs⟩ := id hS
  obtain ⟨hG, ⟨r2, r3, r4⟩, r5, r6, r7, r8⟩ := id hr
  obtain ⟨m0, g0, b0, H0, S0, U0, L0, M0, A0⟩ := id hM
  have np5 := hG.1.2
  have no6 := hG.2.1.2
  have mm5 : ∀ i, i < no → (gQ G mn i).2.2.1 ≤ 5 := fun i hi => (hG.2.2 i (by omega)).2
  obtain ⟨L, U, hE⟩ := ends_of hk
  have hR : (R_num q no (S.2 (i + 1))) = (R_q (gQ G mn) no (S.2 (i + 1)) (fun q => nI (numV q.2.2.2 q.2.2.1 1000))) := (show R_q q no (S.2 (i + 1)) (fun q => nI (numV q.2.2.2 q.2.2.1 1000)) = _ from R_q_cong r7 (fun x y h => congrArg nI (numV_eqQ h 1000)) _)
  refine xs_f 1697 r_286_1696 rfl ?_
  refine xs_f 1698 r_286_1697 rfl ?_
  refine xs_f 1700 r_286_1698 rfl ?_
  refine xs_f 1701 r_286_1700 rfl ?_
  refine xs_f 1702 r_286_1701 rfl ?_
  refine xs_ald 1703 0 r_286_1702 (fun _ _ => rfl) rfl rfl rfl (j := (i + 1)) (nI_addE rfl (nI_k 1)) (xarr_r rfl rfl) rfl (by show _ < S.1; omega) (by show S.1 ≤ 65536; omega) rfl ?_
  refine xs_f 1704 r_286_1703 rfl ?_
  refine xs_call (lv2 := [(0, _), (1, _), (2, _)]) r_286_1704 rfl rfl (by decide) (xcan_3 rfl rfl) rfl ?_
  refine xs_f 1 r_265_0 rfl ?_
  refine xs_f 2 r_265_1 rfl ?_
  refine xs_f 3 r_265_2 rfl ?_
  refine xs_f 4 r_265_3 rfl ?_
  refine xs_call (lv2 := [(0, _), (1, _)]) r_265_4 rfl rfl (by decide) (xcan_0 rfl rfl (by first | assumption | exact xup_s | exact o0 | exact m9 | (refine (xup_n (by omega)).trans ?_; first | assumption | exact xup_s | exact o0 | exact m9) | (refine (xup_n (by omega)).trans ((xup_n (by omega)).trans ?_); first | assumption | exact xup_s | exact o0 | exact m9) | (refine (xup_n (by omega)).trans ((xup_n (by omega)).trans ((xup_n (by omega)).trans ?_)); first | assumption | exact xup_s | exact o0 | exact m9)) (by rfl)) rfl (e_110 o0 hB (by omega) hC (by omega) hE (fun f8 W8 lo8 hi8 c8 y8 z9 => ?_) (fun z9 => ?_))
  · rw [hR] at z9
    have q9 : ((R_num q no (S.2 (i + 1))) : XR).2 = (R_q (gQ G mn) no (S.2 (i + 1)) (fun q => nI (numV q.2.2.2 q.2.2.1 1000))).2 := congrArg Prod.snd hR
    have e8 : ∀ x, (x < 794 ∨ 804 ≤ x) → f8 x = h.1 x := fun x hx => y8 x (by omega)
    refine xK_v rfl ?_
    refine xs_f 8 r_265_7 rfl ?_
    refine xs_astL 9 r_265_8 (fun _ _ => rfl) rfl rfl rfl (j := 0) (nI_k 0) (hO.fr (y8 _ (by omega))) (by omega) (fun f1 O9 y1 => ?_)
    have z1 : ∀ x, x ≠ 818 → (x < 794 ∨ 804 ≤ x) → f1 x = h.1 x := fun x h1 h2 => (y1 x (by omega)).trans (e8 x h2)
    have e9 := z1
    have c9 := c8.fr (g := f1) (fun x h1 h2 => y1 x (by omega))
    have m9 := (e9 809 (by omega) (by omega)).trans m0
    have g9 := g0.fr (e9 _ (by omega) (by omega))
    have D9 := hD.fr (e9 _ (by omega) (by omega))
    have B9 : h.2 = h.2 ∨ h.2 = (xbump h).2 := Or.inl rfl
    refine xs_f 15 r_265_9 rfl ?_
    refine xs_f 16 r_265_15 rfl ?_
    refine xs_ret r_265_16 rfl ?_
    refine xK_v rfl ?_
    refine xs_f 1709 (lv2 := [(6, _), (0, _), (1, _), (2, _), (3, _), (4, _), (5, _)]) r_286_1707 rfl ?_
    refine xs_f 1710 r_286_1709 rfl ?_
    refine xs_f 1711 r_286_1710 rfl ?_
    refine xs_f 1713 r_286_1711 rfl ?_
    refine xs_f 1714 r_286_1713 rfl ?_
    refine xs_f 1715 r_286_1714 rfl ?_
    refine xs_ald 1716 0 r_286_1715 (fun _ _ => rfl) rfl rfl rfl (j := (i + 1)) (nI_addE rfl (nI_k 1)) (xarr_r rfl rfl) rfl (by show _ < S.1; omega) (by show S.1 ≤ 65536; omega) rfl ?_
    refine xs_call (lv2 := [(0, _), (1, _)]) r_286_1716 rfl rfl (by decide) (xcan_0 rfl rfl (by first | assumption | exact o0 | exact m9) (by rfl)) rfl (m_202 m9 g9 hG (by omega) (fun f2 x2 y2 => ?_))
    refine xK_v rfl ?_
    refine xs_f 1721 (lv2 := [(7, _), (6, _), (0, _), (1, _), (2, _), (3, _), (4, _), (5, _)]) r_286_1719 rfl ?_
    refine xs_f 1722 r_286_1721 rfl ?_
    refine xs_call (lv2 := [(0, _)]) r_286_1722 rfl rfl (by decide) (xcan_0 rfl rfl x2 (by rfl)) rfl ?_
    refine xs_f 1 r_149_0 rfl ?_
    refine xs_get 4 r_149_1 rfl rfl x2 (by rfl) ?_
    refine xs_ret r_149_4 rfl ?_
    refine xK_v rfl ?_
    refine xs_f 1727 r_286_1725 rfl ?_
    refine xs_if 1732 1730 r_286_1727 rfl (fun hth => ?_) (fun hth => ?_)
    · refine xs_f 1734 r_286_1732 rfl ?_
      refine xs_f 1737 r_286_1734 rfl ?_
      refine xs_f 1738 r_286_1737 rfl ?_
      refine xs_f 1739 r_286_1738 rfl ?_
      refine xs_aldL 1740 r_286_1739 (fun _ _ => rfl) rfl rfl rfl (j := 0) (nI_k 0) (O9.fr (y2 _ (by omega))) (by omega) ?_
      rw [xw_s]
      refine xs_f 1742 r_286_1740 rfl ?_
      refine xs_f 1743 r_286_1742 rfl ?_
      refine xs_f 1744 r_286_1743 rfl ?_
      refine xs_if 1749 1747 r_286_1744 rfl (fun hl => ?_) (fun hl => ?_)
      · refine xs_f 2897 r_286_1749 rfl ?_
        exact xP_lv [(0, .ref 12), (1, .ref 32), (2, .ref 809), (3, .ref 818), (4, .ref 819), (5, .int (nI i))] rfl ⟨rfl, rfl, rfl, rfl, rfl, rfl, trivial⟩ (k _ (hP.q (h2 := (f2, _)) (fun x h1 h2 h3 h4 => (y2 x (by omega)).trans (e9 x h2 h4)) ⟨_, _, _, x2⟩ ⟨_, O9.fr (y2 _ (by omega))⟩ (D9.fr (y2 _ (by omega))) ⟨_, _, _, c9.fr (fun x h1 h2 => y2 x (by omega))⟩ B9))
      · exact absurd (by rw [q9]; exact lg_cmp_r _) hl
    · exact absurd (by first | exact congrArg nI z9 | rfl) hth
  · rw [hR] at z9
    have c9 := hC
    have O9 := hO
    have D9 := hD
    have e9 : ∀ x, x ≠ 818 → (x < 794 ∨ 804 ≤ x) → (xbump h).1 x = h.1 x := fun _ _ _ => rfl
    have m9 := (e9 809 (by omega) (by omega)).trans m0
    have g9 := g0.fr (e9 _ (by omega) (by omega))
    have B9 : (xbump h).2 = h.2 ∨ (xbump h).2 = (xbump h).2 := Or.inr rfl
    refine xK_c (lv2 := [(0, _), (1, _), (2, _)]) rfl rfl rfl rfl ?_
    refine xs_f 14 r_265_13 rfl ?_
    refine xs_ret r_265_14 rfl ?_
    refine xK_v rfl ?_
    refine xs_f 1709 (lv2 := [(6, _), (0, _), (1, _), (2, _), (3, _), (4, _), (5, _)]) r_286_1707 rfl ?_
    refine xs_f 1710 r_286_1709 rfl ?_
    refine xs_f 1711 r_286_1710 rfl ?_
    refine xs_f 1713 r_286_1711 rfl ?_
    refine xs_f 1714 r_286_1713 rfl ?_
    refine xs_f 1715 r_286_1714 rfl ?_
    refine xs_ald 1716 0 r_286_1715 (fun _ _ => rfl) rfl rfl rfl (j := (i + 1)) (nI_addE rfl (nI_k 1)) (xarr_r rfl rfl) rfl (by show _ < S.1; omega) (by show S.1 ≤ 65536; omega) rfl ?_
    refine xs_call (lv2 := [(0, _), (1, _)]) r_286_1716 rfl rfl (by decide) (xcan_0 rfl rfl (by first | assumption | exact o0 | exact m9) (by rfl)) rfl (m_202 m9 g9 hG (by omega) (fun f2 x2 y2 => ?_))
    refine xK_v rfl ?_
    refine xs_f 1721 (lv2 := [(7, _), (6, _), (0, _), (1, _), (2, _), (3, _), (4, _), (5, _)]) r_286_1719 rfl ?_
    refine xs_f 1722 r_286_1721 rfl ?_
    refine xs_call (lv2 := [(0, _)]) r_286_1722 rfl rfl (by decide) (xcan_0 rfl rfl x2 (by rfl)) rfl ?_
    refine xs_f 1 r_149_0 rfl ?_
    refine xs_get 4 r_149_1 rfl rfl x2 (by rfl) ?_
    refine xs_ret r_149_4 rfl ?_
    refine xK_v rfl ?_
    refine xs_f 1727 r_286_1725 rfl ?_
    refine xs_if 1732 1730 r_286_1727 rfl (fun hth => ?_) (fun hth => ?_)
    · refine xs_f 1734 r_286_1732 rfl ?_
      refine xs_f 1749 r_286_1734 rfl ?_
      refine xs_f 2897 r_286_1749 rfl ?_
      exact xP_lv [(0, .ref 12), (1, .ref 32), (2, .ref 809), (3, .ref 818), (4, .ref 819), (5, .int (nI i))] rfl ⟨rfl, rfl, rfl, rfl, rfl, rfl, trivial⟩ (k _ (hP.q (h2 := (f2, _)) (fun x h1 h2 h3 h4 => (y2 x (by omega)).trans (e9 x h2 h4)) ⟨_, _, _, x2⟩ ⟨_, O9.fr (y2 _ (by omega))⟩ (D9.fr (y2 _ (by omega))) ⟨_, _, _, c9.fr (fun x h1 h2 => y2 x (by omega))⟩ B9))
    · exact absurd (by first | exact congrArg nI z9 | rfl) hth

theorem lw_28 {S : XSc} {d : Nat} {h : XH} {Q : XO → XH → Prop} {i c : Nat} (hi : i + 7 ≤ S.1) (hL : S.1 ≤ 3584) (hc : c ≤ 511) (hI : LwI h c) (k : ∀ h2, LwI h2 (c + 1) → xP S (d + 14) 286 2897 [(0, .ref 12), (1, .ref 32), (2, .ref 809), (3, .ref 818), (4, .ref 819), (5, .int (nI i))] [] h2 Q) : xP S (d + 14) 286 1765 [(0, .ref 12), (1, .ref 32), (2, .ref 809), (3, .ref 818), (4, .ref 819), (5, .int (nI i))] [] h Q := by
  obtain ⟨H, Sv, pos, ch, sv, K, ea, fa, G, tn, Bu, on, Le, hP⟩ := hI
  obtain ⟨hX, hS, ⟨W, lo, hi2, hC⟩, ⟨p0, cc0, nu0, hT⟩, hZ, ⟨B, Mo, Pa, th, sp, wr, hM⟩, ⟨w0, hO⟩, hD, ⟨hK, h8, ht, hon⟩, hcn⟩ := id hP
  obtain ⟨o0, hHi, hSv, G8, hG8⟩ := id hX
  obtain ⟨mn, np, no, nn, N, sc, ho, TS, TH, tr, pl, q, s, R, hB, hr, hk, hN, hs⟩ := id hS
  obtain ⟨hG, ⟨r2, r3, r4⟩, r5, r6, r7, r8⟩ := id hr
  obtain ⟨m0, g0, b0, H0, S0, U0, L0, M0, A0⟩ := id hM
  have np5 := hG.1.2
  have no6 := hG.2.1.2
  have mm5 : ∀ i, i < no → (gQ G mn i).2.2.1 ≤ 5 := fun i hi => (hG.2.2 i (by omega)).2
  have hR : (R_rec sc tr (S.2 (i + 1))) = (R_rec sc (gT G sc) (S.2 (i + 1))) := R_rec_cong r5 _
  refine xs_f 1766 r_286_1765 rfl ?_
  refine xs_f 1767 r_286_1766 rfl ?_
  refine xs_f 1769 r_286_1767 rfl ?_
  refine xs_f 1770 r_286_1769 rfl ?_
  refine xs_f 1771 r_286_1770 rfl ?_
  refine xs_ald 1772 0 r_286_1771 (fun _ _ => rfl) rfl rfl rfl (j := (i + 1)) (nI_addE rfl (nI_k 1)) (xarr_r rfl rfl) rfl (by show _ < S.1; omega) (by show S.1 ≤ 65536; omega) rfl ?_
  refine xs_f 1773 r_286_1772 rfl ?_
  refine xs_call (lv2 := [(0, _), (1, _), (2, _)]) r_286_1773 rfl rfl (by decide) (xcan_3 rfl rfl) rfl ?_
  refine xs_f 1 r_266_0 rfl ?_
  refine xs_f 2 r_266_1 rfl ?_
  refine xs_f 3 r_266_2 rfl ?_
  refine xs_f 4 r_266_3 rfl ?_
  refine xs_call (lv2 := [(0, _), (1, _)]) r_266_4 rfl rfl (by decide) (xcan_0 rfl rfl (by first | assumption | exact xup_s | exact o0 | exact m9 | (refine (xup_n (by omega)).trans ?_; first | assumption | exact xup_s | exact o0 | exact m9) | (refine (xup_n (by omega)).trans ((xup_n (by omega)).trans ?_); first | assumption | exact xup_s | exact o0 | exact m9) | (refine (xup_n (by omega)).trans ((xup_n (by omega)).trans ((xup_n (by omega)).trans ?_)); first | assumption | exact xup_s | exact o0 | exact m9)) (by rfl)) rfl (e_112 o0 hB (by omega) (fun z9 => ?_) (fun z9 => ?_))
  · rw [hR] at z9
    have q9 : ((R_rec sc tr (S.2 (i + 1))) : XR).2 = (R_rec sc (gT G sc) (S.2 (i + 1))).2 := congrArg Prod.snd hR
    have c8 := hC
    have e8 : ∀ x, (x < 794 ∨ 804 ≤ x) → h.1 x = h.1 x := fun _ _ => rfl
    refine xK_v rfl ?_
    refine xs_f 8 r_266_7 rfl ?_
    refine xs_astL 9 r_266_8 (fun _ _ => rfl) rfl rfl rfl (j := 0) (nI_k 0) hO (by omega) (fun f1 O9 y1 => ?_)
    have z1 : ∀ x, x ≠ 818 → (x < 794 ∨ 804 ≤ x) → f1 x = h.1 x := fun x h1 h2 => (y1 x (by omega)).trans (e8 x h2)
    have e9 := z1
    have c9 := c8.fr (g := f1) (fun x h1 h2 => y1 x (by omega))
    have m9 := (e9 809 (by omega) (by omega)).trans m0
    have g9 := g0.fr (e9 _ (by omega) (by omega))
    have D9 := hD.fr (e9 _ (by omega) (by omega))
    have B9 : h.2 = h.2 ∨ h.2 = (xbump h).2 := Or.inl rfl
    refine xs_f 15 r_266_9 rfl ?_
    refine xs_f 16 r_266_15 rfl ?_
    refine xs_ret r_266_16 rfl ?_
    refine xK_v rfl ?_
    refine xs_f 1778 (lv2 := [(6, _), (0, _), (1, _), (2, _), (3, _), (4, _), (5, _)]) r_286_1776 rfl ?_
    refine xs_f 1779 r_286_1778 rfl ?_
    refine xs_f 1780 r_286_1779 rfl ?_
    refine xs_f 1782 r_286_1780 rfl ?_
    refine xs_f 1783 r_286_1782 rfl ?_
    refine xs_f 1784 r_286_1783 rfl ?_
    refine xs_ald 1785 0 r_286_1784 (fun _ _ => rfl) rfl rfl rfl (j := (i + 1)) (nI_addE rfl (nI_k 1)) (xarr_r rfl rfl) rfl (by show _ < S.1; omega) (by show S.1 ≤ 65536; omega) rfl ?_
    refine xs_call (lv2 := [(0, _), (1, _)]) r_286_1785 rfl rfl (by decide) (xcan_0 rfl rfl (by first | assumption | exact o0 | exact m9) (by rfl)) rfl (m_204 m9 g9 hG (by omega) r4 (by omega) (fun f2 x2 y2 => ?_))
    refine xK_v rfl ?_
    refine xs_f 1790 (lv2 := [(7, _), (6, _), (0, _), (1, _), (2, _), (3, _), (4, _), (5, _)]) r_286_1788 rfl ?_
    refine xs_f 1791 r_286_1790 rfl ?_
    refine xs_call (lv2 := [(0, _)]) r_286_1791 rfl rfl (by decide) (xcan_0 rfl rfl x2 (by rfl)) rfl ?_
    refine xs_f 1 r_149_0 rfl ?_
    refine xs_get 4 r_149_1 rfl rfl x2 (by rfl) ?_
    refine xs_ret r_149_4 rfl ?_
    refine xK_v rfl ?_
    refine xs_f 1796 r_286_1794 rfl ?_
    refine xs_if 1801 1799 r_286_1796 rfl (fun hth => ?_) (fun hth => ?_)
    · refine xs_f 1803 r_286_1801 rfl ?_
      refine xs_f 1806 r_286_1803 rfl ?_
      refine xs_f 1807 r_286_1806 rfl ?_
      refine xs_f 1808 r_286_1807 rfl ?_
      refine xs_aldL 1809 r_286_1808 (fun _ _ => rfl) rfl rfl rfl (j := 0) (nI_k 0) (O9.fr (y2 _ (by omega))) (by omega) ?_
      rw [xw_s]
      refine xs_f 1811 r_286_1809 rfl ?_
      refine xs_f 1812 r_286_1811 rfl ?_
      refine xs_f 1813 r_286_1812 rfl ?_
      refine xs_if 1818 1816 r_286_1813 rfl (fun hl => ?_) (fun hl => ?_)
      · refine xs_f 2897 r_286_1818 rfl ?_
        exact xP_lv [(0, .ref 12), (1, .ref 32), (2, .ref 809), (3, .ref 818), (4, .ref 819), (5, .int (nI i))] rfl ⟨rfl, rfl, rfl, rfl, rfl, rfl, trivial⟩ (k _ (hP.q (h2 := (f2, _)) (fun x h1 h2 h3 h4 => (y2 x (by omega)).trans (e9 x h2 h4)) ⟨_, _, _, x2⟩ ⟨_, O9.fr (y2 _ (by omega))⟩ (D9.fr (y2 _ (by omega))) ⟨_, _, _, c9.fr (fun x h1 h2 => y2 x (by omega))⟩ B9))
      · exact absurd (by rw [q9]; exact lg_cmp_r _) hl
    · exact absurd (by first | exact congrArg nI z9 | rfl) hth
  · rw [hR] at z9
    have c9 := hC
    have O9 := hO
    have D9 := hD
    have e9 : ∀ x, x ≠ 818 → (x < 794 ∨ 804 ≤ x) → (xbump h).1 x = h.1 x := fun _ _ _ => rfl
    have m9 := (e9 809 (by omega) (by omega)).trans m0
    have g9 := g0.fr (e9 _ (by omega) (by omega))
    have B9 : (xbump h).2 = h.2 ∨ (xbump h).2 = (xbump h).2 := Or.inr rfl
    refine xK_c (lv2 := [(0, _), (1, _), (2, _)]) rfl rfl rfl rfl ?_
    refine xs_f 14 r_266_13 rfl ?_
    refine xs_ret r_266_14 rfl ?_
    refine xK_v rfl ?_
    refine xs_f 1778 (lv2 := [(6, _), (0, _), (1, _), (2, _), (3, _), (4, _), (5, _)]) r_286_1776 rfl ?_
    refine xs_f 1779 r_286_1778 rfl ?_
    refine xs_f 1780 r_286_1779 rfl ?_
    refine xs_f 1782 r_286_1780 rfl ?_
    refine xs_f 1783 r_286_1782 rfl ?_
    refine xs_f 1784 r_286_1783 rfl ?_
    refine xs_ald 1785 0 r_286_1784 (fun _ _ => rfl) rfl rfl rfl (j := (i + 1)) (nI_addE rfl (nI_k 1)) (xarr_r rfl rfl) rfl (by show _ < S.1; omega) (by show S.1 ≤ 65536; omega) rfl ?_
    refine xs_call (lv2 := [(0, _), (1, _)]) r_286_1785 rfl rfl (by decide) (xcan_0 rfl rfl (by first | assumption | exact o0 | exact m9) (by rfl)) rfl (m_204 m9 g9 hG (by omega) r4 (by omega) (fun f2 x2 y2 => ?_))
    refine xK_v rfl ?_
    refine xs_f 1790 (lv2 := [(7, _), (6, _), (0, _), (1, _), (2, _), (3, _), (4, _), (5, _)]) r_286_1788 rfl ?_
    refine xs_f 1791 r_286_1790 rfl ?_
    refine xs_call (lv2 := [(0, _)]) r_286_1791 rfl rfl (by decide) (xcan_0 rfl rfl x2 (by rfl)) rfl ?_
    refine xs_f 1 r_149_0 rfl ?_
    refine xs_get 4 r_149_1 rfl rfl x2 (by rfl) ?_
    refine xs_ret r_149_4 rfl ?_
    refine xK_v rfl ?_
    refine xs_f 1796 r_286_1794 rfl ?_
    refine xs_if 1801 1799 r_286_1796 rfl (fun hth => ?_) (fun hth => ?_)
    · refine xs_f 1803 r_286_1801 rfl ?_
      refine xs_f 1818 r_286_1803 rfl ?_
      refine xs_f 2897 r_286_1818 rfl ?_
      exact xP_lv [(0, .ref 12), (1, .ref 32), (2, .ref 809), (3, .ref 818), (4, .ref 819), (5, .int (nI i))] rfl ⟨rfl, rfl, rfl, rfl, rfl, rfl, trivial⟩ (k _ (hP.q (h2 := (f2, _)) (fun x h1 h2 h3 h4 => (y2 x (by omega)).trans (e9 x h2 h4)) ⟨_, _, _, x2⟩ ⟨_, O9.fr (y2 _ (by omega))⟩ (D9.fr (y2 _ (by omega))) ⟨_, _, _, c9.fr (fun x h1 h2 => y2 x (by omega))⟩ B9))
    · exact absurd (by first | exact congrArg nI z9 | rfl) hth

