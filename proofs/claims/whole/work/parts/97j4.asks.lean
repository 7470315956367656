/-! the law: questions, 4 -/
theorem lw_29 {S : XSc} {d : Nat} {h : XH} {Q : XO → XH → Prop} {i c : Nat} (hi : i + 7 ≤ S.1) (hL : S.1 ≤ 3584) (hc : c ≤ 511) (hI : LwI h c) (k : ∀ h2, LwI h2 (c + 1) → xP S (d + 14) 286 2897 [(0, .ref 12), (1, .ref 32), (2, .ref 809), (3, .ref 818), (4, .ref 819), (5, .int (nI i))] [] h2 Q) : xP S (d + 14) 286 1821 [(0, .ref 12), (1, .ref 32), (2, .ref 809), (3, .ref 818), (4, .ref 819), (5, .int (nI i))] [] h Q := by
  obtain ⟨H, Sv, pos, ch, sv, K, ea, fa, G, tn, Bu, on, Le, hP⟩ := hI
  obtain ⟨hX, hS, ⟨W, lo, hi2, hC⟩, ⟨p0, cc0, nu0, hT⟩, hZ, ⟨B, Mo, Pa, th, sp, wr, hM⟩, ⟨w0, hO⟩, hD, ⟨hK, h8, ht, hon⟩, hcn⟩ := id hP
  obtain ⟨o0, hHi, hSv, G8, hG8⟩ := id hX
  obtain ⟨mn, np, no, nn, N, sc, ho, TS, TH, tr, pl, q, s, R, hB, hr, hk, hN, hs⟩ := id hS
  obtain ⟨hG, ⟨r2, r3, r4⟩, r5, r6, r7, r8⟩ := id hr
  obtain ⟨m0, g0, b0, H0, S0, U0, L0, M0, A0⟩ := id hM
  have np5 := hG.1.2
  have no6 := hG.2.1.2
  have mm5 : ∀ i, i < no → (gQ G mn i).2.2.1 ≤ 5 := fun i hi => (hG.2.2 i (by omega)).2
  have hR : (R_pl np (S.2 (i + 1)) (fun i => szP (pl i))) = (R_pl np (S.2 (i + 1)) (fun i => szP (gP G i))) := R_pl_cong (by omega) (fun i hi => (r6 i hi).sz) _
  refine xs_f 1822 r_286_1821 rfl ?_
  refine xs_f 1823 r_286_1822 rfl ?_
  refine xs_f 1825 r_286_1823 rfl ?_
  refine xs_f 1826 r_286_1825 rfl ?_
  refine xs_f 1827 r_286_1826 rfl ?_
  refine xs_ald 1828 0 r_286_1827 (fun _ _ => rfl) rfl rfl rfl (j := (i + 1)) (nI_addE rfl (nI_k 1)) (xarr_r rfl rfl) rfl (by show _ < S.1; omega) (by show S.1 ≤ 65536; omega) rfl ?_
  refine xs_f 1829 r_286_1828 rfl ?_
  refine xs_call (lv2 := [(0, _), (1, _), (2, _)]) r_286_1829 rfl rfl (by decide) (xcan_3 rfl rfl) rfl ?_
  refine xs_f 1 r_267_0 rfl ?_
  refine xs_f 2 r_267_1 rfl ?_
  refine xs_f 3 r_267_2 rfl ?_
  refine xs_f 4 r_267_3 rfl ?_
  refine xs_call (lv2 := [(0, _), (1, _)]) r_267_4 rfl rfl (by decide) (xcan_0 rfl rfl (by first | assumption | exact xup_s | exact o0 | exact m9 | (refine (xup_n (by omega)).trans ?_; first | assumption | exact xup_s | exact o0 | exact m9) | (refine (xup_n (by omega)).trans ((xup_n (by omega)).trans ?_); first | assumption | exact xup_s | exact o0 | exact m9) | (refine (xup_n (by omega)).trans ((xup_n (by omega)).trans ((xup_n (by omega)).trans ?_)); first | assumption | exact xup_s | exact o0 | exact m9)) (by rfl)) rfl (e_113 o0 hB (by omega) (fun z9 => ?_) (fun z9 => ?_))
  · rw [hR] at z9
    have q9 : ((R_pl np (S.2 (i + 1)) (fun i => szP (pl i))) : XR).2 = (R_pl np (S.2 (i + 1)) (fun i => szP (gP G i))).2 := congrArg Prod.snd hR
    have c8 := hC
    have e8 : ∀ x, (x < 794 ∨ 804 ≤ x) → h.1 x = h.1 x := fun _ _ => rfl
    refine xK_v rfl ?_
    refine xs_f 8 r_267_7 rfl ?_
    refine xs_astL 9 r_267_8 (fun _ _ => rfl) rfl rfl rfl (j := 0) (nI_k 0) hO (by omega) (fun f1 O9 y1 => ?_)
    have z1 : ∀ x, x ≠ 818 → (x < 794 ∨ 804 ≤ x) → f1 x = h.1 x := fun x h1 h2 => (y1 x (by omega)).trans (e8 x h2)
    have e9 := z1
    have c9 := c8.fr (g := f1) (fun x h1 h2 => y1 x (by omega))
    have m9 := (e9 809 (by omega) (by omega)).trans m0
    have g9 := g0.fr (e9 _ (by omega) (by omega))
    have D9 := hD.fr (e9 _ (by omega) (by omega))
    have B9 : h.2 = h.2 ∨ h.2 = (xbump h).2 := Or.inl rfl
    refine xs_f 15 r_267_9 rfl ?_
    refine xs_f 16 r_267_15 rfl ?_
    refine xs_ret r_267_16 rfl ?_
    refine xK_v rfl ?_
    refine xs_f 1834 (lv2 := [(6, _), (0, _), (1, _), (2, _), (3, _), (4, _), (5, _)]) r_286_1832 rfl ?_
    refine xs_f 1835 r_286_1834 rfl ?_
    refine xs_f 1836 r_286_1835 rfl ?_
    refine xs_f 1838 r_286_1836 rfl ?_
    refine xs_f 1839 r_286_1838 rfl ?_
    refine xs_f 1840 r_286_1839 rfl ?_
    refine xs_ald 1841 0 r_286_1840 (fun _ _ => rfl) rfl rfl rfl (j := (i + 1)) (nI_addE rfl (nI_k 1)) (xarr_r rfl rfl) rfl (by show _ < S.1; omega) (by show S.1 ≤ 65536; omega) rfl ?_
    refine xs_call (lv2 := [(0, _), (1, _)]) r_286_1841 rfl rfl (by decide) (xcan_0 rfl rfl (by first | assumption | exact o0 | exact m9) (by rfl)) rfl (m_206 m9 g9 hG (by omega) (fun f2 x2 y2 => ?_))
    refine xK_v rfl ?_
    refine xs_f 1846 (lv2 := [(7, _), (6, _), (0, _), (1, _), (2, _), (3, _), (4, _), (5, _)]) r_286_1844 rfl ?_
    refine xs_f 1847 r_286_1846 rfl ?_
    refine xs_call (lv2 := [(0, _)]) r_286_1847 rfl rfl (by decide) (xcan_0 rfl rfl x2 (by rfl)) rfl ?_
    refine xs_f 1 r_149_0 rfl ?_
    refine xs_get 4 r_149_1 rfl rfl x2 (by rfl) ?_
    refine xs_ret r_149_4 rfl ?_
    refine xK_v rfl ?_
    refine xs_f 1852 r_286_1850 rfl ?_
    refine xs_if 1857 1855 r_286_1852 rfl (fun hth => ?_) (fun hth => ?_)
    · refine xs_f 1859 r_286_1857 rfl ?_
      refine xs_f 1862 r_286_1859 rfl ?_
      refine xs_f 1863 r_286_1862 rfl ?_
      refine xs_f 1864 r_286_1863 rfl ?_
      refine xs_aldL 1865 r_286_1864 (fun _ _ => rfl) rfl rfl rfl (j := 0) (nI_k 0) (O9.fr (y2 _ (by omega))) (by omega) ?_
      rw [xw_s]
      refine xs_f 1867 r_286_1865 rfl ?_
      refine xs_f 1868 r_286_1867 rfl ?_
      refine xs_f 1869 r_286_1868 rfl ?_
      refine xs_if 1874 1872 r_286_1869 rfl (fun hl => ?_) (fun hl => ?_)
      · refine xs_f 2897 r_286_1874 rfl ?_
        exact xP_lv [(0, .ref 12), (1, .ref 32), (2, .ref 809), (3, .ref 818), (4, .ref 819), (5, .int (nI i))] rfl ⟨rfl, rfl, rfl, rfl, rfl, rfl, trivial⟩ (k _ (hP.q (h2 := (f2, _)) (fun x h1 h2 h3 h4 => (y2 x (by omega)).trans (e9 x h2 h4)) ⟨_, _, _, x2⟩ ⟨_, O9.fr (y2 _ (by omega))⟩ (D9.fr (y2 _ (by omega))) ⟨_, _, _, c9.fr (fun x h1 h2 => y2 x (by omega))⟩ B9))
      · exact absurd (by rw [q9]; exact lg_cmp_r _) hl
    · exact absurd (by first | exact congrArg nI z9 | rfl) hth
  · rw [hR] at z9
    have c9 := hC
    have O9 := hO
    have D9 := hD
    have e9 : ∀ x, x ≠ 818 → (x < 794 ∨ 804 ≤ x) → (xbump h).1 x = h.1 x := fun _ _ _ => rfl
    have m9 := (e9 809 (by omega) (by omega)).trans m0
    have g9 := g0.fr (e9 _ (by omega) (by omega))
    have B9 : (xbump h).2 = h.2 ∨ (xbump h).2 = (xbump h).2 := Or.inr rfl
    refine xK_c (lv2 := [(0, _), (1, _), (2, _)]) rfl rfl rfl rfl ?_
    refine xs_f 14 r_267_13 rfl ?_
    refine xs_ret r_267_14 rfl ?_
    refine xK_v rfl ?_
    refine xs_f 1834 (lv2 := [(6, _), (0, _), (1, _), (2, _), (3, _), (4, _), (5, _)]) r_286_1832 rfl ?_
    refine xs_f 1835 r_286_1834 rfl ?_
    refine xs_f 1836 r_286_1835 rfl ?_
    refine xs_f 1838 r_286_1836 rfl ?_
    refine xs_f 1839 r_286_1838 rfl ?_
    refine xs_f 1840 r_286_1839 rfl ?_
    refine xs_ald 1841 0 r_286_1840 (fun _ _ => rfl) rfl rfl rfl (j := (i + 1)) (nI_addE rfl (nI_k 1)) (xarr_r rfl rfl) rfl (by show _ < S.1; omega) (by show S.1 ≤ 65536; omega) rfl ?_
    refine xs_call (lv2 := [(0, _), (1, _)]) r_286_1841 rfl rfl (by decide) (xcan_0 rfl rfl (by first | assumption | exact o0 | exact m9) (by rfl)) rfl (m_206 m9 g9 hG (by omega) (fun f2 x2 y2 => ?_))
    refine xK_v rfl ?_
    refine xs_f 1846 (lv2 := [(7, _), (6, _), (0, _), (1, _), (2, _), (3, _), (4, _), (5, _)]) r_286_1844 rfl ?_
    refine xs_f 1847 r_286_1846 rfl ?_
    refine xs_call (lv2 := [(0, _)]) r_286_1847 rfl rfl (by decide) (xcan_0 rfl rfl x2 (by rfl)) rfl ?_
    refine xs_f 1 r_149_0 rfl ?_
    refine xs_get 4 r_149_1 rfl rfl x2 (by rfl) ?_
    refine xs_ret r_149_4 rfl ?_
    refine xK_v rfl ?_
    refine xs_f 1852 r_286_1850 rfl ?_
    refine xs_if 1857 1855 r_286_1852 rfl (fun hth => ?_) (fun hth => ?_)
    · refine xs_f 1859 r_286_1857 rfl ?_
      refine xs_f 1874 r_286_1859 rfl ?_
      refine xs_f 2897 r_286_1874 rfl ?_
      exact xP_lv [(0, .ref 12), (1, .ref 32), (2, .ref 809), (3, .ref 818), (4, .ref 819), (5, .int (nI i))] rfl ⟨rfl, rfl, rfl, rfl, rfl, rfl, trivial⟩ (k _ (hP.q (h2 := (f2, _)) (fun x h1 h2 h3 h4 => (y2 x (by omega)).trans (e9 x h2 h4)) ⟨_, _, _, x2⟩ ⟨_, O9.fr (y2 _ (by omega))⟩ (D9.fr (y2 _ (by omega))) ⟨_, _, _, c9.fr (fun x h1 h2 => y2 x (by omega))⟩ B9))
    · exact absurd (by first | exact congrArg nI z9 | rfl) hth

theorem lw_30 {S : XSc} {d : Nat} {h : XH} {Q : XO → XH → Prop} {i c : Nat} (hi : i + 7 ≤ S.1) (hL : S.1 ≤ 3584) (hc : c ≤ 511) (hI : LwI h c) (k : ∀ h2, LwI h2 (c + 1) → xP S (d + 14) 286 2897 [(0, .ref 12), (1, .ref 32), (2, .ref 809), (3, .ref 818), (4, .ref 819), (5, .int (nI i))] [] h2 Q) : xP S (d + 14) 286 1877 [(0, .ref 12), (1, .ref 32), (2, .ref 809), (3, .ref 818), (4, .ref 819), (5, .int (nI i))] [] h Q := by
  obtain ⟨H, Sv, pos, ch, sv, K, ea, fa, G, tn, Bu, on, Le, hP⟩ := hI
  obtain ⟨hX, hS, ⟨W, lo, hi2, hC⟩, ⟨p0, cc0, nu0, hT⟩, hZ, ⟨B, Mo, Pa, th, sp, wr, hM⟩, ⟨w0, hO⟩, hD, ⟨hK, h8, ht, hon⟩, hcn⟩ := id hP
  obtain ⟨o0, hHi, hSv, G8, hG8⟩ := id hX
  obtain ⟨mn, np, no, nn, N, sc, ho, TS, TH, tr, pl, q, s, R, hB, hr, hk, hN, hs⟩ := id hS
  obtain ⟨hG, ⟨r2, r3, r4⟩, r5, r6, r7, r8⟩ := id hr
  obtain ⟨m0, g0, b0, H0, S0, U0, L0, M0, A0⟩ := id hM
  have np5 := hG.1.2
  have no6 := hG.2.1.2
  have mm5 : ∀ i, i < no → (gQ G mn i).2.2.1 ≤ 5 := fun i hi => (hG.2.2 i (by omega)).2
  have hR : (R_pl np (S.2 (i + 1)) (fun i => htP (pl i))) = (R_pl np (S.2 (i + 1)) (fun i => htP (gP G i))) := R_pl_cong (by omega) (fun i hi => (r6 i hi).ht) _
  refine xs_f 1878 r_286_1877 rfl ?_
  refine xs_f 1879 r_286_1878 rfl ?_
  refine xs_f 1881 r_286_1879 rfl ?_
  refine xs_f 1882 r_286_1881 rfl ?_
  refine xs_f 1883 r_286_1882 rfl ?_
  refine xs_ald 1884 0 r_286_1883 (fun _ _ => rfl) rfl rfl rfl (j := (i + 1)) (nI_addE rfl (nI_k 1)) (xarr_r rfl rfl) rfl (by show _ < S.1; omega) (by show S.1 ≤ 65536; omega) rfl ?_
  refine xs_f 1885 r_286_1884 rfl ?_
  refine xs_call (lv2 := [(0, _), (1, _), (2, _)]) r_286_1885 rfl rfl (by decide) (xcan_3 rfl rfl) rfl ?_
  refine xs_f 1 r_268_0 rfl ?_
  refine xs_f 2 r_268_1 rfl ?_
  refine xs_f 3 r_268_2 rfl ?_
  refine xs_f 4 r_268_3 rfl ?_
  refine xs_call (lv2 := [(0, _), (1, _)]) r_268_4 rfl rfl (by decide) (xcan_0 rfl rfl (by first | assumption | exact xup_s | exact o0 | exact m9 | (refine (xup_n (by omega)).trans ?_; first | assumption | exact xup_s | exact o0 | exact m9) | (refine (xup_n (by omega)).trans ((xup_n (by omega)).trans ?_); first | assumption | exact xup_s | exact o0 | exact m9) | (refine (xup_n (by omega)).trans ((xup_n (by omega)).trans ((xup_n (by omega)).trans ?_)); first | assumption | exact xup_s | exact o0 | exact m9)) (by rfl)) rfl (e_114 o0 hB (by omega) (fun z9 => ?_) (fun z9 => ?_))
  · rw [hR] at z9
    have q9 : ((R_pl np (S.2 (i + 1)) (fun i => htP (pl i))) : XR).2 = (R_pl np (S.2 (i + 1)) (fun i => htP (gP G i))).2 := congrArg Prod.snd hR
    have c8 := hC
    have e8 : ∀ x, (x < 794 ∨ 804 ≤ x) → h.1 x = h.1 x := fun _ _ => rfl
    refine xK_v rfl ?_
    refine xs_f 8 r_268_7 rfl ?_
    refine xs_astL 9 r_268_8 (fun _ _ => rfl) rfl rfl rfl (j := 0) (nI_k 0) hO (by omega) (fun f1 O9 y1 => ?_)
    have z1 : ∀ x, x ≠ 818 → (x < 794 ∨ 804 ≤ x) → f1 x = h.1 x := fun x h1 h2 => (y1 x (by omega)).trans (e8 x h2)
    have e9 := z1
    have c9 := c8.fr (g := f1) (fun x h1 h2 => y1 x (by omega))
    have m9 := (e9 809 (by omega) (by omega)).trans m0
    have g9 := g0.fr (e9 _ (by omega) (by omega))
    have D9 := hD.fr (e9 _ (by omega) (by omega))
    have B9 : h.2 = h.2 ∨ h.2 = (xbump h).2 := Or.inl rfl
    refine xs_f 15 r_268_9 rfl ?_
    refine xs_f 16 r_268_15 rfl ?_
    refine xs_ret r_268_16 rfl ?_
    refine xK_v rfl ?_
    refine xs_f 1890 (lv2 := [(6, _), (0, _), (1, _), (2, _), (3, _), (4, _), (5, _)]) r_286_1888 rfl ?_
    refine xs_f 1891 r_286_1890 rfl ?_
    refine xs_f 1892 r_286_1891 rfl ?_
    refine xs_f 1894 r_286_1892 rfl ?_
    refine xs_f 1895 r_286_1894 rfl ?_
    refine xs_f 1896 r_286_1895 rfl ?_
    refine xs_ald 1897 0 r_286_1896 (fun _ _ => rfl) rfl rfl rfl (j := (i + 1)) (nI_addE rfl (nI_k 1)) (xarr_r rfl rfl) rfl (by show _ < S.1; omega) (by show S.1 ≤ 65536; omega) rfl ?_
    refine xs_call (lv2 := [(0, _), (1, _)]) r_286_1897 rfl rfl (by decide) (xcan_0 rfl rfl (by first | assumption | exact o0 | exact m9) (by rfl)) rfl (m_207 m9 g9 hG (by omega) (fun f2 x2 y2 => ?_))
    refine xK_v rfl ?_
    refine xs_f 1902 (lv2 := [(7, _), (6, _), (0, _), (1, _), (2, _), (3, _), (4, _), (5, _)]) r_286_1900 rfl ?_
    refine xs_f 1903 r_286_1902 rfl ?_
    refine xs_call (lv2 := [(0, _)]) r_286_1903 rfl rfl (by decide) (xcan_0 rfl rfl x2 (by rfl)) rfl ?_
    refine xs_f 1 r_149_0 rfl ?_
    refine xs_get 4 r_149_1 rfl rfl x2 (by rfl) ?_
    refine xs_ret r_149_4 rfl ?_
    refine xK_v rfl ?_
    refine xs_f 1908 r_286_1906 rfl ?_
    refine xs_if 1913 1911 r_286_1908 rfl (fun hth => ?_) (fun hth => ?_)
    · refine xs_f 1915 r_286_1913 rfl ?_
      refine xs_f 1918 r_286_1915 rfl ?_
      refine xs_f 1919 r_286_1918 rfl ?_
      refine xs_f 1920 r_286_1919 rfl ?_
      refine xs_aldL 1921 r_286_1920 (fun _ _ => rfl) rfl rfl rfl (j := 0) (nI_k 0) (O9.fr (y2 _ (by omega))) (by omega) ?_
      rw [xw_s]
      refine xs_f 1923 r_286_1921 rfl ?_
      refine xs_f 1924 r_286_1923 rfl ?_
      refine xs_f 1925 r_286_1924 rfl ?_
      refine xs_if 1930 1928 r_286_1925 rfl (fun hl => ?_) (fun hl => ?_)
      · refine xs_f 2897 r_286_1930 rfl ?_
        exact xP_lv [(0, .ref 12), (1, .ref 32), (2, .ref 809), (3, .ref 818), (4, .ref 819), (5, .int (nI i))] rfl ⟨rfl, rfl, rfl, rfl, rfl, rfl, trivial⟩ (k _ (hP.q (h2 := (f2, _)) (fun x h1 h2 h3 h4 => (y2 x (by omega)).trans (e9 x h2 h4)) ⟨_, _, _, x2⟩ ⟨_, O9.fr (y2 _ (by omega))⟩ (D9.fr (y2 _ (by omega))) ⟨_, _, _, c9.fr (fun x h1 h2 => y2 x (by omega))⟩ B9))
      · exact absurd (by rw [q9]; exact lg_cmp_r _) hl
    · exact absurd (by first | exact congrArg nI z9 | rfl) hth
  · rw [hR] at z9
    have c9 := hC
    have O9 := hO
    have D9 := hD
    have e9 : ∀ x, x ≠ 818 → (x < 794 ∨ 804 ≤ x) → (xbump h).1 x = h.1 x := fun _ _ _ => rfl
    have m9 := (e9 809 (by omega) (by omega)).trans m0
    have g9 := g0.fr (e9 _ (by omega) (by omega))
    have B9 : (xbump h).2 = h.2 ∨ (xbump h).2 = (xbump h).2 := Or.inr rfl
    refine xK_c (lv2 := [(0, _), (1, _), (2, _)]) rfl rfl rfl rfl ?_
    refine xs_f 14 r_268_13 rfl ?_
    refine xs_ret r_268_14 rfl ?_
    refine xK_v rfl ?_
    refine xs_f 1890 (lv2 := [(6, _), (0, _), (1, _), (2, _), (3, _), (4, _), (5, _)]) r_286_1888 rfl ?_
    refine xs_f 1891 r_286_1890 rfl ?_
    refine xs_f 1892 r_286_1891 rfl ?_
    refine xs_f 1894 r_286_1892 rfl ?_
    refine xs_f 1895 r_286_1894 rfl ?_
    refine xs_f 1896 r_286_1895 rfl ?_
    refine xs_ald 1897 0 r_286_1896 (fun _ _ => rfl) rfl rfl rfl (j := (i + 1)) (nI_addE rfl (nI_k 1)) (xarr_r rfl rfl) rfl (by show _ < S.1; omega) (by show S.1 ≤ 65536; omega) rfl ?_
    refine xs_call (lv2 := [(0, _), (1, _)]) r_286_1897 rfl rfl (by decide) (xcan_0 rfl rfl (by first | assumption | exact o0 | exact m9) (by rfl)) rfl (m_207 m9 g9 hG (by omega) (fun f2 x2 y2 => ?_))
    refine xK_v rfl ?_
    refine xs_f 1902 (lv2 := [(7, _), (6, _), (0, _), (1, _), (2, _), (3, _), (4, _), (5, _)]) r_286_1900 rfl ?_
    refine xs_f 1903 r_286_1902 rfl ?_
    refine xs_call (lv2 := [(0, _)]) r_286_1903 rfl rfl (by decide) (xcan_0 rfl rfl x2 (by rfl)) rfl ?_
    refine xs_f 1 r_149_0 rfl ?_
    refine xs_get 4 r_149_1 rfl rfl x2 (by rfl) ?_
    refine xs_ret r_149_4 rfl ?_
    refine xK_v rfl ?_
    refine xs_f 1908 r_286_1906 rfl ?_
    refine xs_if 1913 1911 r_286_1908 rfl (fun hth => ?_) (fun hth => ?_)
    · refine xs_f 1915 r_286_1913 rfl ?_
      refine xs_f 1930 r_286_1915 rfl ?_
      refine xs_f 2897 r_286_1930 rfl ?_
      exact xP_lv [(0, .ref 12), (1, .ref 32), (2, .ref 809), (3, .ref 818), (4, .ref 819), (5, .int (nI i))] rfl ⟨rfl, rfl, rfl, rfl, rfl, rfl, trivial⟩ (k _ (hP.q (h2 := (f2, _)) (fun x h1 h2 h3 h4 => (y2 x (by omega)).trans (e9 x h2 h4)) ⟨_, _, _, x2⟩ ⟨_, O9.fr (y2 _ (by omega))⟩ (D9.fr (y2 _ (by omega))) ⟨_, _, _, c9.fr (fun x h1 h2 => y2 x (by omega))⟩ B9))
    · exact absurd (by first | exact congrArg nI z9 | rfl) hth

theorem lw_31 {S : XSc} {d : Nat} {h : XH} {Q : XO → XH → Prop} {i c : Nat} (hi : i + 7 ≤ S.1) (hL : S.1 ≤ 3584) (hc : c ≤ 511) (hI : LwI h c) (k : ∀ h2, LwI h2 (c + 1) → xP S (d + 14) 286 2897 [(0, .ref 12), (1, .ref 32), (2, .ref 809), (3, .ref 818), (4, .ref 819), (5, .int (nI i))] [] h2 Q) : xP S (d + 14) 286 1933 [(0, .ref 12), (1, .ref 32), (2, .ref 809), (3, .ref 818), (4, .ref 819), (5, .int (nI i))] [] h Q := by
  obtain ⟨H, Sv, pos, ch, sv, K, ea, fa, G, tn, Bu, on, Le, hP⟩ := hI
  obtain ⟨hX, hS, ⟨W, lo, hi2, hC⟩, ⟨p0, cc0, nu0, hT⟩, hZ, ⟨B, Mo, Pa, th, sp, wr, hM⟩, ⟨w0, hO⟩, hD, ⟨hK, h8, ht, hon⟩, hcn⟩ := id hP
  obtain ⟨o0, hHi, hSv, G8, hG8⟩ := id hX
  obtain ⟨mn, np, no, nn, N, sc, ho, TS, TH, tr, pl, q, s, R, hB, hr, hk, hN, hs⟩ := id hS
  obtain ⟨hG, ⟨r2, r3, r4⟩, r5, r6, r7, r8⟩ := id hr
  obtain ⟨m0, g0, b0, H0, S0, U0, L0, M0, A0⟩ := id hM
  have np5 := hG.1.2
  have no6 := hG.2.1.2
  have mm5 : ∀ i, i < no → (gQ G mn i).2.2.1 ≤ 5 := fun i hi => (hG.2.2 i (by omega)).2
  have hR : (R_pl np (S.2 (i + 1)) (fun i => (pl i).2.1)) = (R_pl np (S.2 (i + 1)) (fun i => (gP G i).2.1)) := R_pl_cong (by omega) (fun i hi => (r6 i hi).2.1) _
  refine xs_f 1934 r_286_1933 rfl ?_
  refine xs_f 1935 r_286_1934 rfl ?_
  refine xs_f 1937 r_286_1935 rfl ?_
  refine xs_f 1938 r_286_1937 rfl ?_
  refine xs_f 1939 r_286_1938 rfl ?_
  refine xs_ald 1940 0 r_286_1939 (fun _ _ => rfl) rfl rfl rfl (j := (i + 1)) (nI_addE rfl (nI_k 1)) (xarr_r rfl rfl) rfl (by show _ < S.1; omega) (by show S.1 ≤ 65536; omega) rfl ?_
  refine xs_f 1941 r_286_1940 rfl ?_
  refine xs_call (lv2 := [(0, _), (1, _), (2, _)]) r_286_1941 rfl rfl (by decide) (xcan_3 rfl rfl) rfl ?_
  refine xs_f 1 r_269_0 rfl ?_
  refine xs_f 2 r_269_1 rfl ?_
  refine xs_f 3 r_269_2 rfl ?_
  refine xs_f 4 r_269_3 rfl ?_
  refine xs_call (lv2 := [(0, _), (1, _)]) r_269_4 rfl rfl (by decide) (xcan_0 rfl rfl (by first | assumption | exact xup_s | exact o0 | exact m9 | (refine (xup_n (by omega)).trans ?_; first | assumption | exact xup_s | exact o0 | exact m9) | (refine (xup_n (by omega)).trans ((xup_n (by omega)).trans ?_); first | assumption | exact xup_s | exact o0 | exact m9) | (refine (xup_n (by omega)).trans ((xup_n (by omega)).trans ((xup_n (by omega)).trans ?_)); first | assumption | exact xup_s | exact o0 | exact m9)) (by rfl)) rfl (e_115 o0 hB (by omega) (fun z9 => ?_) (fun z9 => ?_))
  · rw [hR] at z9
    have q9 : ((R_pl np (S.2 (i + 1)) (fun i => (pl i).2.1)) : XR).2 = (R_pl np (S.2 (i + 1)) (fun i => (gP G i).2.1)).2 := congrArg Prod.snd hR
    have c8 := hC
    have e8 : ∀ x, (x < 794 ∨ 804 ≤ x) → h.1 x = h.1 x := fun _ _ => rfl
    refine xK_v rfl ?_
    refine xs_f 8 r_269_7 rfl ?_
    refine xs_astL 9 r_269_8 (fun _ _ => rfl) rfl rfl rfl (j := 0) (nI_k 0) hO (by omega) (fun f1 O9 y1 => ?_)
    have z1 : ∀ x, x ≠ 818 → (x < 794 ∨ 804 ≤ x) → f1 x = h.1 x := fun x h1 h2 => (y1 x (by omega)).trans (e8 x h2)
    have e9 := z1
    have c9 := c8.fr (g := f1) (fun x h1 h2 => y1 x (by omega))
    have m9 := (e9 809 (by omega) (by omega)).trans m0
    have g9 := g0.fr (e9 _ (by omega) (by omega))
    have D9 := hD.fr (e9 _ (by omega) (by omega))
    have B9 : h.2 = h.2 ∨ h.2 = (xbump h).2 := Or.inl rfl
    refine xs_f 15 r_269_9 rfl ?_
    refine xs_f 16 r_269_15 rfl ?_
    refine xs_ret r_269_16 rfl ?_
    refine xK_v rfl ?_
    refine xs_f 1946 (lv2 := [(6, _), (0, _), (1, _), (2, _), (3, _), (4, _), (5, _)]) r_286_1944 rfl ?_
    refine xs_f 1947 r_286_1946 rfl ?_
    refine xs_f 1948 r_286_1947 rfl ?_
    refine xs_f 1950 r_286_1948 rfl ?_
    refine xs_f 1951 r_286_1950 rfl ?_
    refine xs_f 1952 r_286_1951 rfl ?_
    refine xs_ald 1953 0 r_286_1952 (fun _ _ => rfl) rfl rfl rfl (j := (i + 1)) (nI_addE rfl (nI_k 1)) (xarr_r rfl rfl) rfl (by show _ < S.1; omega) (by show S.1 ≤ 65536; omega) rfl ?_
    refine xs_call (lv2 := [(0, _), (1, _)]) r_286_1953 rfl rfl (by decide) (xcan_0 rfl rfl (by first | assumption | exact o0 | exact m9) (by rfl)) rfl (m_208 m9 g9 hG (by omega) (fun f2 x2 y2 => ?_))
    refine xK_v rfl ?_
    refine xs_f 1958 (lv2 := [(7, _), (6, _), (0, _), (1, _), (2, _), (3, _), (4, _), (5, _)]) r_286_1956 rfl ?_
    refine xs_f 1959 r_286_1958 rfl ?_
    refine xs_call (lv2 := [(0, _)]) r_286_1959 rfl rfl (by decide) (xcan_0 rfl rfl x2 (by rfl)) rfl ?_
    refine xs_f 1 r_149_0 rfl ?_
    refine xs_get 4 r_149_1 rfl rfl x2 (by rfl) ?_
    refine xs_ret r_149_4 rfl ?_
    refine xK_v rfl ?_
    refine xs_f 1964 r_286_1962 rfl ?_
    refine xs_if 1969 1967 r_286_1964 rfl (fun hth => ?_) (fun hth => ?_)
    · refine xs_f 1971 r_286_1969 rfl ?_
      refine xs_f 1974 r_286_1971 rfl ?_
      refine xs_f 1975 r_286_1974 rfl ?_
      refine xs_f 1976 r_286_1975 rfl ?_
      refine xs_aldL 1977 r_286_1976 (fun _ _ => rfl) rfl rfl rfl (j := 0) (nI_k 0) (O9.fr (y2 _ (by omega))) (by omega) ?_
      rw [xw_s]
      refine xs_f 1979 r_286_1977 rfl ?_
      refine xs_f 1980 r_286_1979 rfl ?_
      refine xs_f 1981 r_286_1980 rfl ?_
      refine xs_if 1986 1984 r_286_1981 rfl (fun hl => ?_) (fun hl => ?_)
      · refine xs_f 2897 r_286_1986 rfl ?_
        exact xP_lv [(0, .ref 12), (1, .ref 32), (2, .ref 809), (3, .ref 818), (4, .ref 819), (5, .int (nI i))] rfl ⟨rfl, rfl, rfl, rfl, rfl, rfl, trivial⟩ (k _ (hP.q (h2 := (f2, _)) (fun x h1 h2 h3 h4 => (y2 x (by omega)).trans (e9 x h2 h4)) ⟨_, _, _, x2⟩ ⟨_, O9.fr (y2 _ (by omega))⟩ (D9.fr (y2 _ (by omega))) ⟨_, _, _, c9.fr (fun x h1 h2 => y2 x (by omega))⟩ B9))
      · exact absurd (by rw [q9]; exact lg_cmp_r _) hl
    · exact absurd (by first | exact congrArg nI z9 | rfl) hth
  · rw [hR] at z9
    have c9 := hC
    have O9 := hO
    have D9 := hD
    have e9 : ∀ x, x ≠ 818 → (x < 794 ∨ 804 ≤ x) → (xbump h).1 x = h.1 x := fun _ _ _ => rfl
    have m9 := (e9 809 (by omega) (by omega)).trans m0
    have g9 := g0.fr (e9 _ (by omega) (by omega))
    have B9 : (xbump h).2 = h.2 ∨ (xbump h).2 = (xbump h).2 := Or.inr rfl
    refine xK_c (lv2 := [(0, _), (1, _), (2, _)]) rfl rfl rfl rfl ?_
    refine xs_f 14 r_269_13 rfl ?_
    refine xs_ret r_269_14 rfl ?_
    refine xK_v rfl ?_
    refine xs_f 1946 (lv2 := [(6, _), (0, _), (1, _), (2, _), (3, _), (4, _), (5, _)]) r_286_1944 rfl ?_
    refine xs_f 1947 r_286_1946 rfl ?_
    refine xs_f 1948 r_286_1947 rfl ?_
    refine xs_f 1950 r_286_1948 rfl ?_
    refine xs_f 1951 r_286_1950 rfl ?_
    refine xs_f 1952 r_286_1951 rfl ?_
    refine xs_ald 1953 0 r_286_1952 (fun _ _ => rfl) rfl rfl rfl (j := (i + 1)) (nI_addE rfl (nI_k 1)) (xarr_r rfl rfl) rfl (by show _ < S.1; omega) (by show S.1 ≤ 65536; omega) rfl ?_
    refine xs_call (lv2 := [(0, _), (1, _)]) r_286_1953 rfl rfl (by decide) (xcan_0 rfl rfl (by first | assumption | exact o0 | exact m9) (by rfl)) rfl (m_208 m9 g9 hG (by omega) (fun f2 x2 y2 => ?_))
    refine xK_v rfl ?_
    refine xs_f 1958 (lv2 := [(7, _), (6, _), (0, _), (1, _), (2, _), (3, _), (4, _), (5, _)]) r_286_1956 rfl ?_
    refine xs_f 1959 r_286_1958 rfl ?_
    refine xs_call (lv2 := [(0, _)]) r_286_1959 rfl rfl (by decide) (xcan_0 rfl rfl x2 (by rfl)) rfl ?_
    refine xs_f 1 r_149_0 rfl ?_
    refine xs_get 4 r_149_1 rfl rfl x2 (by rfl) ?_
    refine xs_ret r_149_4 rfl ?_
    refine xK_v rfl ?_
    refine xs_f 1964 r_286_1962 rfl ?_
    refine xs_if 1969 1967 r_286_1964 rfl (fun hth => ?_) (fun hth => ?_)
    · refine xs_f 1971 r_286_1969 rfl ?_
      refine xs_f 1986 r_286_1971 rfl ?_
      refine xs_f 2897 r_286_1986 rfl ?_
      exact xP_lv [(0, .ref 12), (1, .ref 32), (2, .ref 809), (3, .ref 818), (4, .ref 819), (5, .int (nI i))] rfl ⟨rfl, rfl, rfl, rfl, rfl, rfl, trivial⟩ (k _ (hP.q (h2 := (f2, _)) (fun x h1 h2 h3 h4 => (y2 x (by omega)).trans (e9 x h2 h4)) ⟨_, _, _, x2⟩ ⟨_, O9.fr (y2 _ (by omega))⟩ (D9.fr (y2 _ (by omega))) ⟨_, _, _, c9.fr (fun x h1 h2 => y2 x (by omega))⟩ B9))
    · exact absurd (by first | exact congrArg nI z9 | rfl) hth

theorem lw_33 {S : XSc} {d : Nat} {h : XH} {Q : XO → XH → Prop} {i c : Nat} (hi : i + 7 ≤ S.1) (hL : S.1 ≤ 3584) (hc : c ≤ 511) (hI : LwI h c) (k : ∀ h2, LwI h2 (c + 1) → xP S (d + 14) 286 2897 [(0, .ref 12), (1, .ref 32), (2, .ref 809), (3, .ref 818), (4, .ref 819), (5, .int (nI i))] [] h2 Q) : xP S (d + 14) 286 2066 [(0, .ref 12), (1, .ref 32), (2, .ref 809), (3, .ref 818), (4, .ref 819), (5, .int (nI i))] [] h Q := by
  obtain ⟨H, Sv, pos, ch, sv, K, ea, fa, G, tn, Bu, on, Le, hP⟩ := hI
  obtain ⟨hX, hS, ⟨W, lo, hi2, hC⟩, ⟨p0, cc0, nu0, hT⟩, hZ, ⟨B, Mo, Pa, th, sp, wr, hM⟩, ⟨w0, hO⟩, hD, ⟨hK, h8, ht, hon⟩, hcn⟩ := id hP
  obtain ⟨o0, hHi, hSv, G8, hG8⟩ := id hX
  obtain ⟨mn, np, no, nn, N, sc, ho, TS, TH, tr, pl, q, s, R, hB, hr, hk, hN, hs⟩ := id hS
  obtain ⟨hG, ⟨r2, r3, r4⟩, r5, r6, r7, r8⟩ := id hr
  obtain ⟨m0, g0, b0, H0, S0, U0, L0, M0, A0⟩ := id hM
  have np5 := hG.1.2
  have no6 := hG.2.1.2
  have mm5 : ∀ i, i < no → (gQ G mn i).2.2.1 ≤ 5 := fun i hi => (hG.2.2 i (by omega)).2
  have hR : (R_pl np (S.2 (i + 1)) (fun i => errP (pl i))) = (R_pl np (S.2 (i + 1)) (fun i => errP (gP G i))) := R_pl_cong (by omega) (fun i hi => (r6 i hi).er) _
  refine xs_f 2067 r_286_2066 rfl ?_
  refine xs_f 2068 r_286_2067 rfl ?_
  refine xs_f 2070 r_286_2068 rfl ?_
  refine xs_f 2071 r_286_2070 rfl ?_
  refine xs_f 2072 r_286_2071 rfl ?_
  refine xs_ald 2073 0 r_286_2072 (fun _ _ => rfl) rfl rfl rfl (j := (i + 1)) (nI_addE rfl (nI_k 1)) (xarr_r rfl rfl) rfl (by show _ < S.1; omega) (by show S.1 ≤ 65536; omega) rfl ?_
  refine xs_f 2074 r_286_2073 rfl ?_
  refine xs_call (lv2 := [(0, _), (1, _), (2, _)]) r_286_2074 rfl rfl (by decide) (xcan_3 rfl rfl) rfl ?_
  refine xs_f 1 r_271_0 rfl ?_
  refine xs_f 2 r_271_1 rfl ?_
  refine xs_f 3 r_271_2 rfl ?_
  refine xs_f 4 r_271_3 rfl ?_
  refine xs_call (lv2 := [(0, _), (1, _)]) r_271_4 rfl rfl (by decide) (xcan_0 rfl rfl (by first | assumption | exact xup_s | exact o0 | exact m9 | (refine (xup_n (by omega)).trans ?_; first | assumption | exact xup_s | exact o0 | exact m9) | (refine (xup_n (by omega)).trans ((xup_n (by omega)).trans ?_); first | assumption | exact xup_s | exact o0 | exact m9) | (refine (xup_n (by omega)).trans ((xup_n (by omega)).trans ((xup_n (by omega)).trans ?_)); first | assumption | exact xup_s | exact o0 | exact m9)) (by rfl)) rfl (e_117 o0 hB (by omega) (fun z9 => ?_) (fun z9 => ?_))
  · rw [hR] at z9
    have q9 : ((R_pl np (S.2 (i + 1)) (fun i => errP (pl i))) : XR).2 = (R_pl np (S.2 (i + 1)) (fun i => errP (gP G i))).2 := congrArg Prod.snd hR
    have c8 := hC
    have e8 : ∀ x, (x < 794 ∨ 804 ≤ x) → h.1 x = h.1 x := fun _ _ => rfl
    refine xK_v rfl ?_
    refine xs_f 8 r_271_7 rfl ?_
    refine xs_astL 9 r_271_8 (fun _ _ => rfl) rfl rfl rfl (j := 0) (nI_k 0) hO (by omega) (fun f1 O9 y1 => ?_)
    have z1 : ∀ x, x ≠ 818 → (x < 794 ∨ 804 ≤ x) → f1 x = h.1 x := fun x h1 h2 => (y1 x (by omega)).trans (e8 x h2)
    have e9 := z1
    have c9 := c8.fr (g := f1) (fun x h1 h2 => y1 x (by omega))
    have m9 := (e9 809 (by omega) (by omega)).trans m0
    have g9 := g0.fr (e9 _ (by omega) (by omega))
    have D9 := hD.fr (e9 _ (by omega) (by omega))
    have B9 : h.2 = h.2 ∨ h.2 = (xbump h).2 := Or.inl rfl
    refine xs_f 15 r_271_9 rfl ?_
    refine xs_f 16 r_271_15 rfl ?_
    refine xs_ret r_271_16 rfl ?_
    refine xK_v rfl ?_
    refine xs_f 2079 (lv2 := [(6, _), (0, _), (1, _), (2, _), (3, _), (4, _), (5, _)]) r_286_2077 rfl ?_
    refine xs_f 2080 r_286_2079 rfl ?_
    refine xs_f 2081 r_286_2080 rfl ?_
    refine xs_f 2083 r_286_2081 rfl ?_
    refine xs_f 2084 r_286_2083 rfl ?_
    refine xs_f 2085 r_286_2084 rfl ?_
    refine xs_ald 2086 0 r_286_2085 (fun _ _ => rfl) rfl rfl rfl (j := (i + 1)) (nI_addE rfl (nI_k 1)) (xarr_r rfl rfl) rfl (by show _ < S.1; omega) (by show S.1 ≤ 65536; omega) rfl ?_
    refine xs_call (lv2 := [(0, _), (1, _)]) r_286_2086 rfl rfl (by decide) (xcan_0 rfl rfl (by first | assumption | exact o0 | exact m9) (by rfl)) rfl (m_211 m9 g9 hG (by omega) (fun f2 x2 y2 => ?_))
    refine xK_v rfl ?_
    refine xs_f 2091 (lv2 := [(7, _), (6, _), (0, _), (1, _), (2, _), (3, _), (4, _), (5, _)]) r_286_2089 rfl ?_
    refine xs_f 2092 r_286_2091 rfl ?_
    refine xs_call (lv2 := [(0, _)]) r_286_2092 rfl rfl (by decide) (xcan_0 rfl rfl x2 (by rfl)) rfl ?_
    refine xs_f 1 r_149_0 rfl ?_
    refine xs_get 4 r_149_1 rfl rfl x2 (by rfl) ?_
    refine xs_ret r_149_4 rfl ?_
    refine xK_v rfl ?_
    refine xs_f 2097 r_286_2095 rfl ?_
    refine xs_if 2102 2100 r_286_2097 rfl (fun hth => ?_) (fun hth => ?_)
    · refine xs_f 2104 r_286_2102 rfl ?_
      refine xs_f 2107 r_286_2104 rfl ?_
      refine xs_f 2108 r_286_2107 rfl ?_
      refine xs_f 2109 r_286_2108 rfl ?_
      refine xs_aldL 2110 r_286_2109 (fun _ _ => rfl) rfl rfl rfl (j := 0) (nI_k 0) (O9.fr (y2 _ (by omega))) (by omega) ?_
      rw [xw_s]
      refine xs_f 2112 r_286_2110 rfl ?_
      refine xs_f 2113 r_286_2112 rfl ?_
      refine xs_f 2114 r_286_2113 rfl ?_
      refine xs_if 2119 2117 r_286_2114 rfl (fun hl => ?_) (fun hl => ?_)
      · refine xs_f 2897 r_286_2119 rfl ?_
        exact xP_lv [(0, .ref 12), (1, .ref 32), (2, .ref 809), (3, .ref 818), (4, .ref 819), (5, .int (nI i))] rfl ⟨rfl, rfl, rfl, rfl, rfl, rfl, trivial⟩ (k _ (hP.q (h2 := (f2, _)) (fun x h1 h2 h3 h4 => (y2 x (by omega)).trans (e9 x h2 h4)) ⟨_, _, _, x2⟩ ⟨_, O9.fr (y2 _ (by omega))⟩ (D9.fr (y2 _ (by omega))) ⟨_, _, _, c9.fr (fun x h1 h2 => y2 x (by omega))⟩ B9))
      · exact absurd (by rw [q9]; exact lg_cmp_r _) hl
    · exact absurd (by first | exact congrArg nI z9 | rfl) hth
  · rw [hR] at z9
    have c9 := hC
    have O9 := hO
    have D9 := hD
    have e9 : ∀ x, x ≠ 818 → (x < 794 ∨ 804 ≤ x) → (xbump h).1 x = h.1 x := fun _ _ _ => rfl
    have m9 := (e9 809 (by omega) (by omega)).trans m0
    have g9 := g0.fr (e9 _ (by omega) (by omega))
    have B9 : (xbump h).2 = h.2 ∨ (xbump h).2 = (xbump h).2 := Or.inr rfl
    refine xK_c (lv2 := [(0, _), (1, _), (2, _)]) rfl rfl rfl rfl ?_
    refine xs_f 14 r_271_13 rfl ?_
    refine xs_ret r_271_14 rfl ?_
    refine xK_v rfl ?_
    refine xs_f 2079 (lv2 := [(6, _), (0, _), (1, _), (2, _), (3, _), (4, _), (5, _)]) r_286_2077 rfl ?_
    refine xs_f 2080 r_286_2079 rfl ?_
    refine xs_f 2081 r_286_2080 rfl ?_
    refine xs_f 2083 r_286_2081 rfl ?_
    refine xs_f 2084 r_286_2083 rfl ?_
    refine xs_f 2085 r_286_2084 rfl ?_
    refine xs_ald 2086 0 r_286_2085 (fun _ _ => rfl) rfl rfl rfl (j := (i + 1)) (nI_addE rfl (nI_k 1)) (xarr_r rfl rfl) rfl (by show _ < S.1; omega) (by show S.1 ≤ 65536; omega) rfl ?_
    refine xs_call (lv2 := [(0, _), (1, _)]) r_286_2086 rfl rfl (by decide) (xcan_0 rfl rfl (by first | assumption | exact o0 | exact m9) (by rfl)) rfl (m_211 m9 g9 hG (by omega) (fun f2 x2 y2 => ?_))
    refine xK_v rfl ?_
    refine xs_f 2091 (lv2 := [(7, _), (6, _), (0, _), (1, _), (2, _), (3, _), (4, _), (5, _)]) r_286_2089 rfl ?_
    refine xs_f 2092 r_286_2091 rfl ?_
    refine xs_call (lv2 := [(0, _)]) r_286_2092 rfl rfl (by decide) (xcan_0 rfl rfl x2 (by rfl)) rfl ?_
    refine xs_f 1 r_149_0 rfl ?_
    refine xs_get 4 r_149_1 rfl rfl x2 (by rfl) ?_
    refine xs_ret r_149_4 rfl ?_
    refine xK_v rfl ?_
    refine xs_f 2097 r_286_2095 rfl ?_
    refine xs_if 2102 2100 r_286_2097 rfl (fun hth => ?_) (fun hth => ?_)
    · refine xs_f 2104 r_286_2102 rfl ?_
      refine xs_f 2119 r_286_2104 rfl ?_
      refine xs_f 2897 r_286_2119 rfl ?_
      exact xP_lv [(0, .ref 12), (1, .ref 32), (2, .ref 809), (3, .ref 818), (4, .ref 819), (5, .int (nI i))] rfl ⟨rfl, rfl, rfl, rfl, rfl, rfl, trivial⟩ (k _ (hP.q (h2 := (f2, _)) (fun x h1 h2 h3 h4 => (y2 x (by omega)).trans (e9 x h2 h4)) ⟨_, _, _, x2⟩ ⟨_, O9.fr (y2 _ (by omega))⟩ (D9.fr (y2 _ (by omega))) ⟨_, _, _, c9.fr (fun x h1 h2 => y2 x (by omega))⟩ B9))
    · exact absurd (by first | exact congrArg nI z9 | rfl) hth

theorem lw_34 {S : XSc} {d : Nat} {h : XH} {Q : XO → XH → Prop} {i c : Nat} (hi : i + 7 ≤ S.1) (hL : S.1 ≤ 3584) (hc : c ≤ 511) (hI : LwI h c) (k : ∀ h2, LwI h2 (c + 1) → xP S (d + 14) 286 2897 [(0, .ref 12), (1, .ref 32), (2, .ref 809), (3, .ref 818), (4, .ref 819), (5, .int (nI i))] [] h2 Q) : xP S (d + 14) 286 2122 [(0, .ref 12), (1, .ref 32), (2, .ref 809), (3, .ref 818), (4, .ref 819), (5, .int (nI i))] [] h Q := by
  obtain ⟨H, Sv, pos, ch, sv, K, ea, fa, G, tn, Bu, on, Le, hP⟩ := hI
  obtain ⟨hX, hS, ⟨W, lo, hi2, hC⟩, ⟨p0, cc0, nu0, hT⟩, hZ, ⟨B, Mo, Pa, th, sp, wr, hM⟩, ⟨w0, hO⟩, hD, ⟨hK, h8, ht, hon⟩, hcn⟩ := id hP
  obtain ⟨o0, hHi, hSv, G8, hG8⟩ := id hX
  obtain ⟨mn, np, no, nn, N, sc, ho, TS, TH, tr, pl, q, s, R, hB, hr, hk, hN, hs⟩ := id hS
  obtain ⟨hG, ⟨r2, r3, r4⟩, r5, r6, r7, r8⟩ := id hr
  obtain ⟨m0, g0, b0, H0, S0, U0, L0, M0, A0⟩ := id hM
  have np5 := hG.1.2
  have no6 := hG.2.1.2
  have mm5 : ∀ i, i < no → (gQ G mn i).2.2.1 ≤ 5 := fun i hi => (hG.2.2 i (by omega)).2
  have hR : (R_opt (bst pl np)) = (R_opt (bst (gP G) np)) := by rw [bst_cong r6]
  refine xs_f 2123 r_286_2122 rfl ?_
  refine xs_f 2124 r_286_2123 rfl ?_
  refine xs_call (lv2 := [(0, _), (1, _)]) r_286_2124 rfl rfl (by decide) (xcan_3 rfl rfl) rfl ?_
  refine xs_f 1 r_272_0 rfl ?_
  refine xs_f 2 r_272_1 rfl ?_
  refine xs_f 3 r_272_2 rfl ?_
  refine xs_call (lv2 := [(0, _)]) r_272_3 rfl rfl (by decide) (xcan_0 rfl rfl (by first | assumption | exact xup_s | exact o0 | exact m9 | (refine (xup_n (by omega)).trans ?_; first | assumption | exact xup_s | exact o0 | exact m9) | (refine (xup_n (by omega)).trans ((xup_n (by omega)).trans ?_); first | assumption | exact xup_s | exact o0 | exact m9) | (refine (xup_n (by omega)).trans ((xup_n (by omega)).trans ((xup_n (by omega)).trans ?_)); first | assumption | exact xup_s | exact o0 | exact m9)) (by rfl)) rfl (e_118 o0 hB (by omega) trivial (fun z9 => ?_) (fun z9 => ?_))
  · rw [hR] at z9
    have q9 : ((R_opt (bst pl np)) : XR).2 = (R_opt (bst (gP G) np)).2 := congrArg Prod.snd hR
    have c8 := hC
    have e8 : ∀ x, (x < 794 ∨ 804 ≤ x) → h.1 x = h.1 x := fun _ _ => rfl
    refine xK_v rfl ?_
    refine xs_f 7 r_272_6 rfl ?_
    refine xs_astL 8 r_272_7 (fun _ _ => rfl) rfl rfl rfl (j := 0) (nI_k 0) hO (by omega) (fun f1 O9 y1 => ?_)
    have z1 : ∀ x, x ≠ 818 → (x < 794 ∨ 804 ≤ x) → f1 x = h.1 x := fun x h1 h2 => (y1 x (by omega)).trans (e8 x h2)
    have e9 := z1
    have c9 := c8.fr (g := f1) (fun x h1 h2 => y1 x (by omega))
    have m9 := (e9 809 (by omega) (by omega)).trans m0
    have g9 := g0.fr (e9 _ (by omega) (by omega))
    have D9 := hD.fr (e9 _ (by omega) (by omega))
    have B9 : h.2 = h.2 ∨ h.2 = (xbump h).2 := Or.inl rfl
    refine xs_f 14 r_272_8 rfl ?_
    refine xs_f 15 r_272_14 rfl ?_
    refine xs_ret r_272_15 rfl ?_
    refine xK_v rfl ?_
    refine xs_f 2129 (lv2 := [(6, _), (0, _), (1, _), (2, _), (3, _), (4, _), (5, _)]) r_286_2127 rfl ?_
    refine xs_f 2130 r_286_2129 rfl ?_
    refine xs_call (lv2 := [(0, _)]) r_286_2130 rfl rfl (by decide) (xcan_0 rfl rfl (by first | assumption | exact o0 | exact m9) (by rfl)) rfl (m_212 m9 g9 hG (by omega) (fun f2 x2 y2 => ?_))
    refine xK_v rfl ?_
    refine xs_f 2135 (lv2 := [(7, _), (6, _), (0, _), (1, _), (2, _), (3, _), (4, _), (5, _)]) r_286_2133 rfl ?_
    refine xs_f 2136 r_286_2135 rfl ?_
    refine xs_call (lv2 := [(0, _)]) r_286_2136 rfl rfl (by decide) (xcan_0 rfl rfl x2 (by rfl)) rfl ?_
    refine xs_f 1 r_149_0 rfl ?_
    refine xs_get 4 r_149_1 rfl rfl x2 (by rfl) ?_
    refine xs_ret r_149_4 rfl ?_
    refine xK_v rfl ?_
    refine xs_f 2141 r_286_2139 rfl ?_
    refine xs_if 2146 2144 r_286_2141 rfl (fun hth => ?_) (fun hth => ?_)
    · refine xs_f 2148 r_286_2146 rfl ?_
      refine xs_f 2151 r_286_2148 rfl ?_
      refine xs_f 2152 r_286_2151 rfl ?_
      refine xs_f 2153 r_286_2152 rfl ?_
      refine xs_aldL 2154 r_286_2153 (fun _ _ => rfl) rfl rfl rfl (j := 0) (nI_k 0) (O9.fr (y2 _ (by omega))) (by omega) ?_
      rw [xw_s]
      refine xs_f 2156 r_286_2154 rfl ?_
      refine xs_f 2157 r_286_2156 rfl ?_
      refine xs_f 2158 r_286_2157 rfl ?_
      refine xs_if 2163 2161 r_286_2158 rfl (fun hl => ?_) (fun hl => ?_)
      · refine xs_f 2897 r_286_2163 rfl ?_
        exact xP_lv [(0, .ref 12), (1, .ref 32), (2, .ref 809), (3, .ref 818), (4, .ref 819), (5, .int (nI i))] rfl ⟨rfl, rfl, rfl, rfl, rfl, rfl, trivial⟩ (k _ (hP.q (h2 := (f2, _)) (fun x h1 h2 h3 h4 => (y2 x (by omega)).trans (e9 x h2 h4)) ⟨_, _, _, x2⟩ ⟨_, O9.fr (y2 _ (by omega))⟩ (D9.fr (y2 _ (by omega))) ⟨_, _, _, c9.fr (fun x h1 h2 => y2 x (by omega))⟩ B9))
      · exact absurd (by rw [q9]; exact lg_cmp_r _) hl
    · exact absurd (by first | exact congrArg nI z9 | rfl) hth
  · rw [hR] at z9
    have c9 := hC
    have O9 := hO
    have D9 := hD
    have e9 : ∀ x, x ≠ 818 → (x < 794 ∨ 804 ≤ x) → (xbump h).1 x = h.1 x := fun _ _ _ => rfl
    have m9 := (e9 809 (by omega) (by omega)).trans m0
    have g9 := g0.fr (e9 _ (by omega) (by omega))
    have B9 : (xbump h).2 = h.2 ∨ (xbump h).2 = (xbump h).2 := Or.inr rfl
    refine xK_c (lv2 := [(0, _), (1, _)]) rfl rfl rfl rfl ?_
    refine xs_f 13 r_272_12 rfl ?_
    refine xs_ret r_272_13 rfl ?_
    refine xK_v rfl ?_
    refine xs_f 2129 (lv2 := [(6, _), (0, _), (1, _), (2, _), (3, _), (4, _), (5, _)]) r_286_2127 rfl ?_
    refine xs_f 2130 r_286_2129 rfl ?_
    refine xs_call (lv2 := [(0, _)]) r_286_2130 rfl rfl (by decide) (xcan_0 rfl rfl (by first | assumption | exact o0 | exact m9) (by rfl)) rfl (m_212 m9 g9 hG (by omega) (fun f2 x2 y2 => ?_))
    refine xK_v rfl ?_
    refine xs_f 2135 (lv2 := [(7, _), (6, _), (0, _), (1, _), (2, _), (3, _), (4, _), (5, _)]) r_286_2133 rfl ?_
    refine xs_f 2136 r_286_2135 rfl ?_
    refine xs_call (lv2 := [(0, _)]) r_286_2136 rfl rfl (by decide) (xcan_0 rfl rfl x2 (by rfl)) rfl ?_
    refine xs_f 1 r_149_0 rfl ?_
    refine xs_get 4 r_149_1 rfl rfl x2 (by rfl) ?_
    refine xs_ret r_149_4 rfl ?_
    refine xK_v rfl ?_
    refine xs_f 2141 r_286_2139 rfl ?_
    refine xs_if 2146 2144 r_286_2141 rfl (fun hth => ?_) (fun hth => ?_)
    · refine xs_f 2148 r_286_2146 rfl ?_
      refine xs_f 2163 r_286_2148 rfl ?_
      refine xs_f 2897 r_286_2163 rfl ?_
      exact xP_lv [(0, .ref 12), (1, .ref 32), (2, .ref 809), (3, .ref 818), (4, .ref 819), (5, .int (nI i))] rfl ⟨rfl, rfl, rfl, rfl, rfl, rfl, trivial⟩ (k _ (hP.q (h2 := (f2, _)) (fun x h1 h2 h3 h4 => (y2 x (by omega)).trans (e9 x h2 h4)) ⟨_, _, _, x2⟩ ⟨_, O9.fr (y2 _ (by omega))⟩ (D9.fr (y2 _ (by omega))) ⟨_, _, _, c9.fr (fun x h1 h2 => y2 x (by omega))⟩ B9))
    · exact absurd (by first | exact congrArg nI z9 | rfl) hth

theorem lw_35 {S : XSc} {d : Nat} {h : XH} {Q : XO → XH → Prop} {i c : Nat} (hi : i + 7 ≤ S.1) (hL : S.1 ≤ 3584) (hc : c ≤ 511) (hI : LwI h c) (k : ∀ h2, LwI h2 (c + 1) → xP S (d + 14) 286 2897 [(0, .ref 12), (1, .ref 32), (2, .ref 809), (3, .ref 818), (4, .ref 819), (5, .int (nI i))] [] h2 Q) : xP S (d + 14) 286 2166 [(0, .ref 12), (1, .ref 32), (2, .ref 809), (3, .ref 818), (4, .ref 819), (5, .int (nI i))] [] h Q := by
  obtain ⟨H, Sv, pos, ch, sv, K, ea, fa, G, tn, Bu, on, Le, hP⟩ := hI
  obtain ⟨hX, hS, ⟨W, lo, hi2, hC⟩, ⟨p0, cc0, nu0, hT⟩, hZ, ⟨B, Mo, Pa, th, sp, wr, hM⟩, ⟨w0, hO⟩, hD, ⟨hK, h8, ht, hon⟩, hcn⟩ := id hP
  obtain ⟨o0, hHi, hSv, G8, hG8⟩ := id hX
  obtain ⟨mn, np, no, nn, N, sc, ho, TS, TH, tr, pl, q, s, R, hB, hr, hk, hN, hs⟩ := id hS
  obtain ⟨hG, ⟨r2, r3, r4⟩, r5, r6, r7, r8⟩ := id hr
  obtain ⟨m0, g0, b0, H0, S0, U0, L0, M0, A0⟩ := id hM
  have np5 := hG.1.2
  have no6 := hG.2.1.2
  have mm5 : ∀ i, i < no → (gQ G mn i).2.2.1 ≤ 5 := fun i hi => (hG.2.2 i (by omega)).2
  have hR : (R_by np pl (S.2 (i + 1))) = (R_by np (gP G) (S.2 (i + 1))) := R_by_cong r6 _
  refine xs_f 2167 r_286_2166 rfl ?_
  refine xs_f 2168 r_286_2167 rfl ?_
  refine xs_f 2170 r_286_2168 rfl ?_
  refine xs_f 2171 r_286_2170 rfl ?_
  refine xs_f 2172 r_286_2171 rfl ?_
  refine xs_ald 2173 0 r_286_2172 (fun _ _ => rfl) rfl rfl rfl (j := (i + 1)) (nI_addE rfl (nI_k 1)) (xarr_r rfl rfl) rfl (by show _ < S.1; omega) (by show S.1 ≤ 65536; omega) rfl ?_
  refine xs_f 2174 r_286_2173 rfl ?_
  refine xs_call (lv2 := [(0, _), (1, _), (2, _)]) r_286_2174 rfl rfl (by decide) (xcan_3 rfl rfl) rfl ?_
  refine xs_f 1 r_273_0 rfl ?_
  refine xs_f 2 r_273_1 rfl ?_
  refine xs_f 3 r_273_2 rfl ?_
  refine xs_f 4 r_273_3 rfl ?_
  refine xs_call (lv2 := [(0, _), (1, _)]) r_273_4 rfl rfl (by decide) (xcan_0 rfl rfl (by first | assumption | exact xup_s | exact o0 | exact m9 | (refine (xup_n (by omega)).trans ?_; first | assumption | exact xup_s | exact o0 | exact m9) | (refine (xup_n (by omega)).trans ((xup_n (by omega)).trans ?_); first | assumption | exact xup_s | exact o0 | exact m9) | (refine (xup_n (by omega)).trans ((xup_n (by omega)).trans ((xup_n (by omega)).trans ?_)); first | assumption | exact xup_s | exact o0 | exact m9)) (by rfl)) rfl (e_119 o0 hB (by omega) (fun z9 => ?_) (fun z9 => ?_))
  · rw [hR] at z9
    have q9 : ((R_by np pl (S.2 (i + 1))) : XR).2 = (R_by np (gP G) (S.2 (i + 1))).2 := congrArg Prod.snd hR
    have c8 := hC
    have e8 : ∀ x, (x < 794 ∨ 804 ≤ x) → h.1 x = h.1 x := fun _ _ => rfl
    refine xK_v rfl ?_
    refine xs_f 8 r_273_7 rfl ?_
    refine xs_astL 9 r_273_8 (fun _ _ => rfl) rfl rfl rfl (j := 0) (nI_k 0) hO (by omega) (fun f1 O9 y1 => ?_)
    have z1 : ∀ x, x ≠ 818 → (x < 794 ∨ 804 ≤ x) → f1 x = h.1 x := fun x h1 h2 => (y1 x (by omega)).trans (e8 x h2)
    have e9 := z1
    have c9 := c8.fr (g := f1) (fun x h1 h2 => y1 x (by omega))
    have m9 := (e9 809 (by omega) (by omega)).trans m0
    have g9 := g0.fr (e9 _ (by omega) (by omega))
    have D9 := hD.fr (e9 _ (by omega) (by omega))
    have B9 : h.2 = h.2 ∨ h.2 = (xbump h).2 := Or.inl rfl
    refine xs_f 15 r_273_9 rfl ?_
    refine xs_f 16 r_273_15 rfl ?_
    refine xs_ret r_273_16 rfl ?_
    refine xK_v rfl ?_
    refine xs_f 2179 (lv2 := [(6, _), (0, _), (1, _), (2, _), (3, _), (4, _), (5, _)]) r_286_2177 rfl ?_
    refine xs_f 2180 r_286_2179 rfl ?_
    refine xs_f 2181 r_286_2180 rfl ?_
    refine xs_f 2183 r_286_2181 rfl ?_
    refine xs_f 2184 r_286_2183 rfl ?_
    refine xs_f 2185 r_286_2184 rfl ?_
    refine xs_ald 2186 0 r_286_2185 (fun _ _ => rfl) rfl rfl rfl (j := (i + 1)) (nI_addE rfl (nI_k 1)) (xarr_r rfl rfl) rfl (by show _ < S.1; omega) (by show S.1 ≤ 65536; omega) rfl ?_
    refine xs_call (lv2 := [(0, _), (1, _)]) r_286_2186 rfl rfl (by decide) (xcan_0 rfl rfl (by first | assumption | exact o0 | exact m9) (by rfl)) rfl (m_214 m9 g9 hG (by omega) (smP_of hk r6 (by omega)) (fun f2 x2 y2 => ?_))
    refine xK_v rfl ?_
    refine xs_f 2191 (lv2 := [(7, _), (6, _), (0, _), (1, _), (2, _), (3, _), (4, _), (5, _)]) r_286_2189 rfl ?_
    refine xs_f 2192 r_286_2191 rfl ?_
    refine xs_call (lv2 := [(0, _)]) r_286_2192 rfl rfl (by decide) (xcan_0 rfl rfl x2 (by rfl)) rfl ?_
    refine xs_f 1 r_149_0 rfl ?_
    refine xs_get 4 r_149_1 rfl rfl x2 (by rfl) ?_
    refine xs_ret r_149_4 rfl ?_
    refine xK_v rfl ?_
    refine xs_f 2197 r_286_2195 rfl ?_
    refine xs_if 2202 2200 r_286_2197 rfl (fun hth => ?_) (fun hth => ?_)
    · refine xs_f 2204 r_286_2202 rfl ?_
      refine xs_f 2207 r_286_2204 rfl ?_
      refine xs_f 2208 r_286_2207 rfl ?_
      refine xs_f 2209 r_286_2208 rfl ?_
      refine xs_aldL 2210 r_286_2209 (fun _ _ => rfl) rfl rfl rfl (j := 0) (nI_k 0) (O9.fr (y2 _ (by omega))) (by omega) ?_
      rw [xw_s]
      refine xs_f 2212 r_286_2210 rfl ?_
      refine xs_f 2213 r_286_2212 rfl ?_
      refine xs_f 2214 r_286_2213 rfl ?_
      refine xs_if 2219 2217 r_286_2214 rfl (fun hl => ?_) (fun hl => ?_)
      · refine xs_f 2897 r_286_2219 rfl ?_
        exact xP_lv [(0, .ref 12), (1, .ref 32), (2, .ref 809), (3, .ref 818), (4, .ref 819), (5, .int (nI i))] rfl ⟨rfl, rfl, rfl, rfl, rfl, rfl, trivial⟩ (k _ (hP.q (h2 := (f2, _)) (fun x h1 h2 h3 h4 => (y2 x (by omega)).trans (e9 x h2 h4)) ⟨_, _, _, x2⟩ ⟨_, O9.fr (y2 _ (by omega))⟩ (D9.fr (y2 _ (by omega))) ⟨_, _, _, c9.fr (fun x h1 h2 => y2 x (by omega))⟩ B9))
      · exact absurd (by rw [q9]; exact lg_cmp_r _) hl
    · exact absurd (by first | exact congrArg nI z9 | rfl) hth
  · rw [hR] at z9
    have c9 := hC
    have O9 := hO
    have D9 := hD
    have e9 : ∀ x, x ≠ 818 → (x < 794 ∨ 804 ≤ x) → (xbump h).1 x = h.1 x := fun _ _ _ => rfl
    have m9 := (e9 809 (by omega) (by omega)).trans m0
    have g9 := g0.fr (e9 _ (by omega) (by omega))
    have B9 : (xbump h).2 = h.2 ∨ (xbump h).2 = (xbump h).2 := Or.inr rfl
    refine xK_c (lv2 := [(0, _), (1, _), (2, _)]) rfl rfl rfl rfl ?_
    refine xs_f 14 r_273_13 rfl ?_
    refine xs_ret r_273_14 rfl ?_
    refine xK_v rfl ?_
    refine xs_f 2179 (lv2 := [(6, _), (0, _), (1, _), (2, _), (3, _), (4, _), (5, _)]) r_286_2177 rfl ?_
    refine xs_f 2180 r_286_2179 rfl ?_
    refine xs_f 2181 r_286_2180 rfl ?_
    refine xs_f 2183 r_286_2181 rfl ?_
    refine xs_f 2184 r_286_2183 rfl ?_
    refine xs_f 2185 r_286_2184 rfl ?_
    refine xs_ald 2186 0 r_286_2185 (fun _ _ => rfl) rfl rfl rfl (j := (i + 1)) (nI_addE rfl (nI_k 1)) (xarr_r rfl rfl) rfl (by show _ < S.1; omega) (by show S.1 ≤ 65536; omega) rfl ?_
    refine xs_call (lv2 := [(0, _), (1, _)]) r_286_2186 rfl rfl (by decide) (xcan_0 rfl rfl (by first | assumption | exact o0 | exact m9) (by rfl)) rfl (m_214 m9 g9 hG (by omega) (smP_of hk r6 (by omega)) (fun f2 x2 y2 => ?_))
    refine xK_v rfl ?_
    refine xs_f 2191 (lv2 := [(7, _), (6, _), (0, _), (1, _), (2, _), (3, _), (4, _), (5, _)]) r_286_2189 rfl ?_
    refine xs_f 2192 r_286_2191 rfl ?_
    refine xs_call (lv2 := [(0, _)]) r_286_2192 rfl rfl (by decide) (xcan_0 rfl rfl x2 (by rfl)) rfl ?_
    refine xs_f 1 r_149_0 rfl ?_
    refine xs_get 4 r_149_1 rfl rfl x2 (by rfl) ?_
    refine xs_ret r_149_4 rfl ?_
    refine xK_v rfl ?_
    refine xs_f 2197 r_286_2195 rfl ?_
    refine xs_if 2202 2200 r_286_2197 rfl (fun hth => ?_) (fun hth => ?_)
    · refine xs_f 2204 r_286_2202 rfl ?_
      refine xs_f 2219 r_286_2204 rfl ?_
      refine xs_f 2897 r_286_2219 rfl ?_
      exact xP_lv [(0, .ref 12), (1, .ref 32), (2, .ref 809), (3, .ref 818), (4, .ref 819), (5, .int (nI i))] rfl ⟨rfl, rfl, rfl, rfl, rfl, rfl, trivial⟩ (k _ (hP.q (h2 := (f2, _)) (fun x h1 h2 h3 h4 => (y2 x (by omega)).trans (e9 x h2 h4)) ⟨_, _, _, x2⟩ ⟨_, O9.fr (y2 _ (by omega))⟩ (D9.fr (y2 _ (by omega))) ⟨_, _, _, c9.fr (fun x h1 h2 => y2 x (by omega))⟩ B9))
    · exact absurd (by first | exact congrArg nI z9 | rfl) hth

