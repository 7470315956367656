/-! the law: questions, 5 -/
theorem lw_36 {S : XSc} {d : Nat} {h : XH} {Q : XO → XH → Prop} {i c : Nat} (hi : i + 7 ≤ S.1) (hL : S.1 ≤ 3584) (hc : c ≤ 511) (hI : LwI h c) (k : ∀ h2, LwI h2 (c + 1) → xP S (d + 14) 286 2897 [(0, .ref 12), (1, .ref 32), (2, .ref 809), (3, .ref 818), (4, .ref 819), (5, .int (nI i))] [] h2 Q) : xP S (d + 14) 286 2222 [(0, .ref 12), (1, .ref 32), (2, .ref 809), (3, .ref 818), (4, .ref 819), (5, .int (nI i))] [] h Q := by
  obtain ⟨H, Sv, pos, ch, sv, K, ea, fa, G, tn, Bu, on, Le, hP⟩ := hI
  obtain ⟨hX, hS, ⟨W, lo, hi2, hC⟩, ⟨p0, cc0, nu0, hT⟩, hZ, ⟨B, Mo, Pa, th, sp, wr, hM⟩, ⟨w0, hO⟩, hD, ⟨hK, h8, ht, hon⟩, hcn⟩ := id hP
  obtain ⟨o0, hHi, hSv, G8, hG8⟩ := id hX
  obtain ⟨mn, np, no, nn, N, sc, ho, TS, TH, tr, pl, q, s, R, hB, hr, hk, hN, hs⟩ := id hS
  obtain ⟨hG, ⟨r2, r3, r4⟩, r5, r6, r7, r8⟩ := id hr
  obtain ⟨m0, g0, b0, H0, S0, U0, L0, M0, A0⟩ := id hM
  have np5 := hG.1.2
  have no6 := hG.2.1.2
  have mm5 : ∀ i, i < no → (gQ G mn i).2.2.1 ≤ 5 := fun i hi => (hG.2.2 i (by omega)).2
  have bs := binS_of (G := G) hk r6
  have hR : (R_bin TS (S.2 (i + 1))) = (R_bin (fun j => xsum (fun i => G (30 + 9 * i + j - 1)) np) (S.2 (i + 1))) := R_bin_cong bs.1 _
  refine xs_f 2223 r_286_2222 rfl ?_
  refine xs_f 2224 r_286_2223 rfl ?_
  refine xs_f 2226 r_286_2224 rfl ?_
  refine xs_f 2227 r_286_2226 rfl ?_
  refine xs_f 2228 r_286_2227 rfl ?_
  refine xs_ald 2229 0 r_286_2228 (fun _ _ => rfl) rfl rfl rfl (j := (i + 1)) (nI_addE rfl (nI_k 1)) (xarr_r rfl rfl) rfl (by show _ < S.1; omega) (by show S.1 ≤ 65536; omega) rfl ?_
  refine xs_f 2230 r_286_2229 rfl ?_
  refine xs_call (lv2 := [(0, _), (1, _), (2, _)]) r_286_2230 rfl rfl (by decide) (xcan_3 rfl rfl) rfl ?_
  refine xs_f 1 r_274_0 rfl ?_
  refine xs_f 2 r_274_1 rfl ?_
  refine xs_f 3 r_274_2 rfl ?_
  refine xs_f 4 r_274_3 rfl ?_
  refine xs_call (lv2 := [(0, _), (1, _)]) r_274_4 rfl rfl (by decide) (xcan_0 rfl rfl (by first | assumption | exact xup_s | exact o0 | exact m9 | (refine (xup_n (by omega)).trans ?_; first | assumption | exact xup_s | exact o0 | exact m9) | (refine (xup_n (by omega)).trans ((xup_n (by omega)).trans ?_); first | assumption | exact xup_s | exact o0 | exact m9) | (refine (xup_n (by omega)).trans ((xup_n (by omega)).trans ((xup_n (by omega)).trans ?_)); first | assumption | exact xup_s | exact o0 | exact m9)) (by rfl)) rfl (e_120 o0 hB (by omega) (fun z9 => ?_) (fun z9 => ?_))
  · rw [hR] at z9
    have q9 : ((R_bin TS (S.2 (i + 1))) : XR).2 = (R_bin (fun j => xsum (fun i => G (30 + 9 * i + j - 1)) np) (S.2 (i + 1))).2 := congrArg Prod.snd hR
    have c8 := hC
    have e8 : ∀ x, (x < 794 ∨ 804 ≤ x) → h.1 x = h.1 x := fun _ _ => rfl
    refine xK_v rfl ?_
    refine xs_f 8 r_274_7 rfl ?_
    refine xs_astL 9 r_274_8 (fun _ _ => rfl) rfl rfl rfl (j := 0) (nI_k 0) hO (by omega) (fun f1 O9 y1 => ?_)
    have z1 : ∀ x, x ≠ 818 → (x < 794 ∨ 804 ≤ x) → f1 x = h.1 x := fun x h1 h2 => (y1 x (by omega)).trans (e8 x h2)
    have e9 := z1
    have c9 := c8.fr (g := f1) (fun x h1 h2 => y1 x (by omega))
    have m9 := (e9 809 (by omega) (by omega)).trans m0
    have g9 := g0.fr (e9 _ (by omega) (by omega))
    have D9 := hD.fr (e9 _ (by omega) (by omega))
    have B9 : h.2 = h.2 ∨ h.2 = (xbump h).2 := Or.inl rfl
    refine xs_f 15 r_274_9 rfl ?_
    refine xs_f 16 r_274_15 rfl ?_
    refine xs_ret r_274_16 rfl ?_
    refine xK_v rfl ?_
    refine xs_f 2235 (lv2 := [(6, _), (0, _), (1, _), (2, _), (3, _), (4, _), (5, _)]) r_286_2233 rfl ?_
    refine xs_f 2236 r_286_2235 rfl ?_
    refine xs_f 2237 r_286_2236 rfl ?_
    refine xs_f 2239 r_286_2237 rfl ?_
    refine xs_f 2240 r_286_2239 rfl ?_
    refine xs_f 2241 r_286_2240 rfl ?_
    refine xs_ald 2242 0 r_286_2241 (fun _ _ => rfl) rfl rfl rfl (j := (i + 1)) (nI_addE rfl (nI_k 1)) (xarr_r rfl rfl) rfl (by show _ < S.1; omega) (by show S.1 ≤ 65536; omega) rfl ?_
    refine xs_call (lv2 := [(0, _), (1, _)]) r_286_2242 rfl rfl (by decide) (xcan_0 rfl rfl (by first | assumption | exact o0 | exact m9) (by rfl)) rfl (m_216 m9 g9 hG (by omega) (fun f2 x2 y2 => ?_))
    refine xK_v rfl ?_
    refine xs_f 2247 (lv2 := [(7, _), (6, _), (0, _), (1, _), (2, _), (3, _), (4, _), (5, _)]) r_286_2245 rfl ?_
    refine xs_f 2248 r_286_2247 rfl ?_
    refine xs_call (lv2 := [(0, _)]) r_286_2248 rfl rfl (by decide) (xcan_0 rfl rfl x2 (by rfl)) rfl ?_
    refine xs_f 1 r_149_0 rfl ?_
    refine xs_get 4 r_149_1 rfl rfl x2 (by rfl) ?_
    refine xs_ret r_149_4 rfl ?_
    refine xK_v rfl ?_
    refine xs_f 2253 r_286_2251 rfl ?_
    refine xs_if 2258 2256 r_286_2253 rfl (fun hth => ?_) (fun hth => ?_)
    · refine xs_f 2260 r_286_2258 rfl ?_
      refine xs_f 2263 r_286_2260 rfl ?_
      refine xs_f 2264 r_286_2263 rfl ?_
      refine xs_f 2265 r_286_2264 rfl ?_
      refine xs_aldL 2266 r_286_2265 (fun _ _ => rfl) rfl rfl rfl (j := 0) (nI_k 0) (O9.fr (y2 _ (by omega))) (by omega) ?_
      rw [xw_s]
      refine xs_f 2268 r_286_2266 rfl ?_
      refine xs_f 2269 r_286_2268 rfl ?_
      refine xs_f 2270 r_286_2269 rfl ?_
      refine xs_if 2275 2273 r_286_2270 rfl (fun hl => ?_) (fun hl => ?_)
      · refine xs_f 2897 r_286_2275 rfl ?_
        exact xP_lv [(0, .ref 12), (1, .ref 32), (2, .ref 809), (3, .ref 818), (4, .ref 819), (5, .int (nI i))] rfl ⟨rfl, rfl, rfl, rfl, rfl, rfl, trivial⟩ (k _ (hP.q (h2 := (f2, _)) (fun x h1 h2 h3 h4 => (y2 x (by omega)).trans (e9 x h2 h4)) ⟨_, _, _, x2⟩ ⟨_, O9.fr (y2 _ (by omega))⟩ (D9.fr (y2 _ (by omega))) ⟨_, _, _, c9.fr (fun x h1 h2 => y2 x (by omega))⟩ B9))
      · exact absurd (by rw [q9]; exact lg_cmp_r _) hl
    · exact absurd (by first | exact congrArg nI z9 | rfl) hth
  · rw [hR] at z9
    have c9 := hC
    have O9 := hO
    have D9 := hD
    have e9 : ∀ x, x ≠ 818 → (x < 794 ∨ 804 ≤ x) → (xbump h).1 x = h.1 x := fun _ _ _ => rfl
    have m9 := (e9 809 (by omega) (by omega)).trans m0
    have g9 := g0.fr (e9 _ (by omega) (by omega))
    have B9 : (xbump h).2 = h.2 ∨ (xbump h).2 = (xbump h).2 := Or.inr rfl
    refine xK_c (lv2 := [(0, _), (1, _), (2, _)]) rfl rfl rfl rfl ?_
    refine xs_f 14 r_274_13 rfl ?_
    refine xs_ret r_274_14 rfl ?_
    refine xK_v rfl ?_
    refine xs_f 2235 (lv2 := [(6, _), (0, _), (1, _), (2, _), (3, _), (4, _), (5, _)]) r_286_2233 rfl ?_
    refine xs_f 2236 r_286_2235 rfl ?_
    refine xs_f 2237 r_286_2236 rfl ?_
    refine xs_f 2239 r_286_2237 rfl ?_
    refine xs_f 2240 r_286_2239 rfl ?_
    refine xs_f 2241 r_286_2240 rfl ?_
    refine xs_ald 2242 0 r_286_2241 (fun _ _ => rfl) rfl rfl rfl (j := (i + 1)) (nI_addE rfl (nI_k 1)) (xarr_r rfl rfl) rfl (by show _ < S.1; omega) (by show S.1 ≤ 65536; omega) rfl ?_
    refine xs_call (lv2 := [(0, _), (1, _)]) r_286_2242 rfl rfl (by decide) (xcan_0 rfl rfl (by first | assumption | exact o0 | exact m9) (by rfl)) rfl (m_216 m9 g9 hG (by omega) (fun f2 x2 y2 => ?_))
    refine xK_v rfl ?_
    refine xs_f 2247 (lv2 := [(7, _), (6, _), (0, _), (1, _), (2, _), (3, _), (4, _), (5, _)]) r_286_2245 rfl ?_
    refine xs_f 2248 r_286_2247 rfl ?_
    refine xs_call (lv2 := [(0, _)]) r_286_2248 rfl rfl (by decide) (xcan_0 rfl rfl x2 (by rfl)) rfl ?_
    refine xs_f 1 r_149_0 rfl ?_
    refine xs_get 4 r_149_1 rfl rfl x2 (by rfl) ?_
    refine xs_ret r_149_4 rfl ?_
    refine xK_v rfl ?_
    refine xs_f 2253 r_286_2251 rfl ?_
    refine xs_if 2258 2256 r_286_2253 rfl (fun hth => ?_) (fun hth => ?_)
    · refine xs_f 2260 r_286_2258 rfl ?_
      refine xs_f 2275 r_286_2260 rfl ?_
      refine xs_f 2897 r_286_2275 rfl ?_
      exact xP_lv [(0, .ref 12), (1, .ref 32), (2, .ref 809), (3, .ref 818), (4, .ref 819), (5, .int (nI i))] rfl ⟨rfl, rfl, rfl, rfl, rfl, rfl, trivial⟩ (k _ (hP.q (h2 := (f2, _)) (fun x h1 h2 h3 h4 => (y2 x (by omega)).trans (e9 x h2 h4)) ⟨_, _, _, x2⟩ ⟨_, O9.fr (y2 _ (by omega))⟩ (D9.fr (y2 _ (by omega))) ⟨_, _, _, c9.fr (fun x h1 h2 => y2 x (by omega))⟩ B9))
    · exact absurd (by first | exact congrArg nI z9 | rfl) hth

theorem lw_37 {S : XSc} {d : Nat} {h : XH} {Q : XO → XH → Prop} {i c : Nat} (hi : i + 7 ≤ S.1) (hL : S.1 ≤ 3584) (hc : c ≤ 511) (hI : LwI h c) (k : ∀ h2, LwI h2 (c + 1) → xP S (d + 14) 286 2897 [(0, .ref 12), (1, .ref 32), (2, .ref 809), (3, .ref 818), (4, .ref 819), (5, .int (nI i))] [] h2 Q) : xP S (d + 14) 286 2278 [(0, .ref 12), (1, .ref 32), (2, .ref 809), (3, .ref 818), (4, .ref 819), (5, .int (nI i))] [] h Q := by
  obtain ⟨H, Sv, pos, ch, sv, K, ea, fa, G, tn, Bu, on, Le, hP⟩ := hI
  obtain ⟨hX, hS, ⟨W, lo, hi2, hC⟩, ⟨p0, cc0, nu0, hT⟩, hZ, ⟨B, Mo, Pa, th, sp, wr, hM⟩, ⟨w0, hO⟩, hD, ⟨hK, h8, ht, hon⟩, hcn⟩ := id hP
  obtain ⟨o0, hHi, hSv, G8, hG8⟩ := id hX
  obtain ⟨mn, np, no, nn, N, sc, ho, TS, TH, tr, pl, q, s, R, hB, hr, hk, hN, hs⟩ := id hS
  obtain ⟨hG, ⟨r2, r3, r4⟩, r5, r6, r7, r8⟩ := id hr
  obtain ⟨m0, g0, b0, H0, S0, U0, L0, M0, A0⟩ := id hM
  have np5 := hG.1.2
  have no6 := hG.2.1.2
  have mm5 : ∀ i, i < no → (gQ G mn i).2.2.1 ≤ 5 := fun i hi => (hG.2.2 i (by omega)).2
  have bs := binS_of (G := G) hk r6
  have hR : (R_bin (fun j => xsum (fun i => (pl i).2.2.2.1 j) np) (S.2 (i + 1))) = (R_bin (fun j => xsum (fun i => G (30 + 9 * i + j - 1)) np) (S.2 (i + 1))) := R_bin_cong bs.2.2 _
  refine xs_f 2279 r_286_2278 rfl ?_
  refine xs_f 2280 r_286_2279 rfl ?_
  refine xs_f 2282 r_286_2280 rfl ?_
  refine xs_f 2283 r_286_2282 rfl ?_
  refine xs_f 2284 r_286_2283 rfl ?_
  refine xs_ald 2285 0 r_286_2284 (fun _ _ => rfl) rfl rfl rfl (j := (i + 1)) (nI_addE rfl (nI_k 1)) (xarr_r rfl rfl) rfl (by show _ < S.1; omega) (by show S.1 ≤ 65536; omega) rfl ?_
  refine xs_f 2286 r_286_2285 rfl ?_
  refine xs_call (lv2 := [(0, _), (1, _), (2, _)]) r_286_2286 rfl rfl (by decide) (xcan_3 rfl rfl) rfl ?_
  refine xs_f 1 r_275_0 rfl ?_
  refine xs_f 2 r_275_1 rfl ?_
  refine xs_f 3 r_275_2 rfl ?_
  refine xs_f 4 r_275_3 rfl ?_
  refine xs_call (lv2 := [(0, _), (1, _)]) r_275_4 rfl rfl (by decide) (xcan_0 rfl rfl (by first | assumption | exact xup_s | exact o0 | exact m9 | (refine (xup_n (by omega)).trans ?_; first | assumption | exact xup_s | exact o0 | exact m9) | (refine (xup_n (by omega)).trans ((xup_n (by omega)).trans ?_); first | assumption | exact xup_s | exact o0 | exact m9) | (refine (xup_n (by omega)).trans ((xup_n (by omega)).trans ((xup_n (by omega)).trans ?_)); first | assumption | exact xup_s | exact o0 | exact m9)) (by rfl)) rfl (e_121 o0 hB (by omega) (fun z9 => ?_) (fun z9 => ?_))
  · rw [hR] at z9
    have q9 : ((R_bin (fun j => xsum (fun i => (pl i).2.2.2.1 j) np) (S.2 (i + 1))) : XR).2 = (R_bin (fun j => xsum (fun i => G (30 + 9 * i + j - 1)) np) (S.2 (i + 1))).2 := congrArg Prod.snd hR
    have c8 := hC
    have e8 : ∀ x, (x < 794 ∨ 804 ≤ x) → h.1 x = h.1 x := fun _ _ => rfl
    refine xK_v rfl ?_
    refine xs_f 8 r_275_7 rfl ?_
    refine xs_astL 9 r_275_8 (fun _ _ => rfl) rfl rfl rfl (j := 0) (nI_k 0) hO (by omega) (fun f1 O9 y1 => ?_)
    have z1 : ∀ x, x ≠ 818 → (x < 794 ∨ 804 ≤ x) → f1 x = h.1 x := fun x h1 h2 => (y1 x (by omega)).trans (e8 x h2)
    have e9 := z1
    have c9 := c8.fr (g := f1) (fun x h1 h2 => y1 x (by omega))
    have m9 := (e9 809 (by omega) (by omega)).trans m0
    have g9 := g0.fr (e9 _ (by omega) (by omega))
    have D9 := hD.fr (e9 _ (by omega) (by omega))
    have B9 : h.2 = h.2 ∨ h.2 = (xbump h).2 := Or.inl rfl
    refine xs_f 15 r_275_9 rfl ?_
    refine xs_f 16 r_275_15 rfl ?_
    refine xs_ret r_275_16 rfl ?_
    refine xK_v rfl ?_
    refine xs_f 2291 (lv2 := [(6, _), (0, _), (1, _), (2, _), (3, _), (4, _), (5, _)]) r_286_2289 rfl ?_
    refine xs_f 2292 r_286_2291 rfl ?_
    refine xs_f 2293 r_286_2292 rfl ?_
    refine xs_f 2295 r_286_2293 rfl ?_
    refine xs_f 2296 r_286_2295 rfl ?_
    refine xs_f 2297 r_286_2296 rfl ?_
    refine xs_ald 2298 0 r_286_2297 (fun _ _ => rfl) rfl rfl rfl (j := (i + 1)) (nI_addE rfl (nI_k 1)) (xarr_r rfl rfl) rfl (by show _ < S.1; omega) (by show S.1 ≤ 65536; omega) rfl ?_
    refine xs_call (lv2 := [(0, _), (1, _)]) r_286_2298 rfl rfl (by decide) (xcan_0 rfl rfl (by first | assumption | exact o0 | exact m9) (by rfl)) rfl (m_217 m9 g9 hG (by omega) (fun f2 x2 y2 => ?_))
    refine xK_v rfl ?_
    refine xs_f 2303 (lv2 := [(7, _), (6, _), (0, _), (1, _), (2, _), (3, _), (4, _), (5, _)]) r_286_2301 rfl ?_
    refine xs_f 2304 r_286_2303 rfl ?_
    refine xs_call (lv2 := [(0, _)]) r_286_2304 rfl rfl (by decide) (xcan_0 rfl rfl x2 (by rfl)) rfl ?_
    refine xs_f 1 r_149_0 rfl ?_
    refine xs_get 4 r_149_1 rfl rfl x2 (by rfl) ?_
    refine xs_ret r_149_4 rfl ?_
    refine xK_v rfl ?_
    refine xs_f 2309 r_286_2307 rfl ?_
    refine xs_if 2314 2312 r_286_2309 rfl (fun hth => ?_) (fun hth => ?_)
    · refine xs_f 2316 r_286_2314 rfl ?_
      refine xs_f 2319 r_286_2316 rfl ?_
      refine xs_f 2320 r_286_2319 rfl ?_
      refine xs_f 2321 r_286_2320 rfl ?_
      refine xs_aldL 2322 r_286_2321 (fun _ _ => rfl) rfl rfl rfl (j := 0) (nI_k 0) (O9.fr (y2 _ (by omega))) (by omega) ?_
      rw [xw_s]
      refine xs_f 2324 r_286_2322 rfl ?_
      refine xs_f 2325 r_286_2324 rfl ?_
      refine xs_f 2326 r_286_2325 rfl ?_
      refine xs_if 2331 2329 r_286_2326 rfl (fun hl => ?_) (fun hl => ?_)
      · refine xs_f 2897 r_286_2331 rfl ?_
        exact xP_lv [(0, .ref 12), (1, .ref 32), (2, .ref 809), (3, .ref 818), (4, .ref 819), (5, .int (nI i))] rfl ⟨rfl, rfl, rfl, rfl, rfl, rfl, trivial⟩ (k _ (hP.q (h2 := (f2, _)) (fun x h1 h2 h3 h4 => (y2 x (by omega)).trans (e9 x h2 h4)) ⟨_, _, _, x2⟩ ⟨_, O9.fr (y2 _ (by omega))⟩ (D9.fr (y2 _ (by omega))) ⟨_, _, _, c9.fr (fun x h1 h2 => y2 x (by omega))⟩ B9))
      · exact absurd (by rw [q9]; exact lg_cmp_r _) hl
    · exact absurd (by first | exact congrArg nI z9 | rfl) hth
  · rw [hR] at z9
    have c9 := hC
    have O9 := hO
    have D9 := hD
    have e9 : ∀ x, x ≠ 818 → (x < 794 ∨ 804 ≤ x) → (xbump h).1 x = h.1 x := fun _ _ _ => rfl
    have m9 := (e9 809 (by omega) (by omega)).trans m0
    have g9 := g0.fr (e9 _ (by omega) (by omega))
    have B9 : (xbump h).2 = h.2 ∨ (xbump h).2 = (xbump h).2 := Or.inr rfl
    refine xK_c (lv2 := [(0, _), (1, _), (2, _)]) rfl rfl rfl rfl ?_
    refine xs_f 14 r_275_13 rfl ?_
    refine xs_ret r_275_14 rfl ?_
    refine xK_v rfl ?_
    refine xs_f 2291 (lv2 := [(6, _), (0, _), (1, _), (2, _), (3, _), (4, _), (5, _)]) r_286_2289 rfl ?_
    refine xs_f 2292 r_286_2291 rfl ?_
    refine xs_f 2293 r_286_2292 rfl ?_
    refine xs_f 2295 r_286_2293 rfl ?_
    refine xs_f 2296 r_286_2295 rfl ?_
    refine xs_f 2297 r_286_2296 rfl ?_
    refine xs_ald 2298 0 r_286_2297 (fun _ _ => rfl) rfl rfl rfl (j := (i + 1)) (nI_addE rfl (nI_k 1)) (xarr_r rfl rfl) rfl (by show _ < S.1; omega) (by show S.1 ≤ 65536; omega) rfl ?_
    refine xs_call (lv2 := [(0, _), (1, _)]) r_286_2298 rfl rfl (by decide) (xcan_0 rfl rfl (by first | assumption | exact o0 | exact m9) (by rfl)) rfl (m_217 m9 g9 hG (by omega) (fun f2 x2 y2 => ?_))
    refine xK_v rfl ?_
    refine xs_f 2303 (lv2 := [(7, _), (6, _), (0, _), (1, _), (2, _), (3, _), (4, _), (5, _)]) r_286_2301 rfl ?_
    refine xs_f 2304 r_286_2303 rfl ?_
    refine xs_call (lv2 := [(0, _)]) r_286_2304 rfl rfl (by decide) (xcan_0 rfl rfl x2 (by rfl)) rfl ?_
    refine xs_f 1 r_149_0 rfl ?_
    refine xs_get 4 r_149_1 rfl rfl x2 (by rfl) ?_
    refine xs_ret r_149_4 rfl ?_
    refine xK_v rfl ?_
    refine xs_f 2309 r_286_2307 rfl ?_
    refine xs_if 2314 2312 r_286_2309 rfl (fun hth => ?_) (fun hth => ?_)
    · refine xs_f 2316 r_286_2314 rfl ?_
      refine xs_f 2331 r_286_2316 rfl ?_
      refine xs_f 2897 r_286_2331 rfl ?_
      exact xP_lv [(0, .ref 12), (1, .ref 32), (2, .ref 809), (3, .ref 818), (4, .ref 819), (5, .int (nI i))] rfl ⟨rfl, rfl, rfl, rfl, rfl, rfl, trivial⟩ (k _ (hP.q (h2 := (f2, _)) (fun x h1 h2 h3 h4 => (y2 x (by omega)).trans (e9 x h2 h4)) ⟨_, _, _, x2⟩ ⟨_, O9.fr (y2 _ (by omega))⟩ (D9.fr (y2 _ (by omega))) ⟨_, _, _, c9.fr (fun x h1 h2 => y2 x (by omega))⟩ B9))
    · exact absurd (by first | exact congrArg nI z9 | rfl) hth

theorem lw_38 {S : XSc} {d : Nat} {h : XH} {Q : XO → XH → Prop} {i c : Nat} (hi : i + 7 ≤ S.1) (hL : S.1 ≤ 3584) (hc : c ≤ 511) (hI : LwI h c) (k : ∀ h2, LwI h2 (c + 1) → xP S (d + 14) 286 2897 [(0, .ref 12), (1, .ref 32), (2, .ref 809), (3, .ref 818), (4, .ref 819), (5, .int (nI i))] [] h2 Q) : xP S (d + 14) 286 2334 [(0, .ref 12), (1, .ref 32), (2, .ref 809), (3, .ref 818), (4, .ref 819), (5, .int (nI i))] [] h Q := by
  obtain ⟨H, Sv, pos, ch, sv, K, ea, fa, G, tn, Bu, on, Le, hP⟩ := hI
  obtain ⟨hX, hS, ⟨W, lo, hi2, hC⟩, ⟨p0, cc0, nu0, hT⟩, hZ, ⟨B, Mo, Pa, th, sp, wr, hM⟩, ⟨w0, hO⟩, hD, ⟨hK, h8, ht, hon⟩, hcn⟩ := id hP
  obtain ⟨o0, hHi, hSv, G8, hG8⟩ := id hX
  obtain ⟨mn, np, no, nn, N, sc, ho, TS, TH, tr, pl, q, s, R, hB, hr, hk, hN, hs⟩ := id hS
  obtain ⟨hG, ⟨r2, r3, r4⟩, r5, r6, r7, r8⟩ := id hr
  obtain ⟨m0, g0, b0, H0, S0, U0, L0, M0, A0⟩ := id hM
  have np5 := hG.1.2
  have no6 := hG.2.1.2
  have mm5 : ∀ i, i < no → (gQ G mn i).2.2.1 ≤ 5 := fun i hi => (hG.2.2 i (by omega)).2
  have bs := binS_of (G := G) hk r6
  have hR : (R_bin TH (S.2 (i + 1))) = (R_bin (fun j => xsum (fun i => G (75 + 9 * i + j - 1)) np) (S.2 (i + 1))) := R_bin_cong bs.2.1 _
  refine xs_f 2335 r_286_2334 rfl ?_
  refine xs_f 2336 r_286_2335 rfl ?_
  refine xs_f 2338 r_286_2336 rfl ?_
  refine xs_f 2339 r_286_2338 rfl ?_
  refine xs_f 2340 r_286_2339 rfl ?_
  refine xs_ald 2341 0 r_286_2340 (fun _ _ => rfl) rfl rfl rfl (j := (i + 1)) (nI_addE rfl (nI_k 1)) (xarr_r rfl rfl) rfl (by show _ < S.1; omega) (by show S.1 ≤ 65536; omega) rfl ?_
  refine xs_f 2342 r_286_2341 rfl ?_
  refine xs_call (lv2 := [(0, _), (1, _), (2, _)]) r_286_2342 rfl rfl (by decide) (xcan_3 rfl rfl) rfl ?_
  refine xs_f 1 r_276_0 rfl ?_
  refine xs_f 2 r_276_1 rfl ?_
  refine xs_f 3 r_276_2 rfl ?_
  refine xs_f 4 r_276_3 rfl ?_
  refine xs_call (lv2 := [(0, _), (1, _)]) r_276_4 rfl rfl (by decide) (xcan_0 rfl rfl (by first | assumption | exact xup_s | exact o0 | exact m9 | (refine (xup_n (by omega)).trans ?_; first | assumption | exact xup_s | exact o0 | exact m9) | (refine (xup_n (by omega)).trans ((xup_n (by omega)).trans ?_); first | assumption | exact xup_s | exact o0 | exact m9) | (refine (xup_n (by omega)).trans ((xup_n (by omega)).trans ((xup_n (by omega)).trans ?_)); first | assumption | exact xup_s | exact o0 | exact m9)) (by rfl)) rfl (e_122 o0 hB (by omega) (fun z9 => ?_) (fun z9 => ?_))
  · rw [hR] at z9
    have q9 : ((R_bin TH (S.2 (i + 1))) : XR).2 = (R_bin (fun j => xsum (fun i => G (75 + 9 * i + j - 1)) np) (S.2 (i + 1))).2 := congrArg Prod.snd hR
    have c8 := hC
    have e8 : ∀ x, (x < 794 ∨ 804 ≤ x) → h.1 x = h.1 x := fun _ _ => rfl
    refine xK_v rfl ?_
    refine xs_f 8 r_276_7 rfl ?_
    refine xs_astL 9 r_276_8 (fun _ _ => rfl) rfl rfl rfl (j := 0) (nI_k 0) hO (by omega) (fun f1 O9 y1 => ?_)
    have z1 : ∀ x, x ≠ 818 → (x < 794 ∨ 804 ≤ x) → f1 x = h.1 x := fun x h1 h2 => (y1 x (by omega)).trans (e8 x h2)
    have e9 := z1
    have c9 := c8.fr (g := f1) (fun x h1 h2 => y1 x (by omega))
    have m9 := (e9 809 (by omega) (by omega)).trans m0
    have g9 := g0.fr (e9 _ (by omega) (by omega))
    have D9 := hD.fr (e9 _ (by omega) (by omega))
    have B9 : h.2 = h.2 ∨ h.2 = (xbump h).2 := Or.inl rfl
    refine xs_f 15 r_276_9 rfl ?_
    refine xs_f 16 r_276_15 rfl ?_
    refine xs_ret r_276_16 rfl ?_
    refine xK_v rfl ?_
    refine xs_f 2347 (lv2 := [(6, _), (0, _), (1, _), (2, _), (3, _), (4, _), (5, _)]) r_286_2345 rfl ?_
    refine xs_f 2348 r_286_2347 rfl ?_
    refine xs_f 2349 r_286_2348 rfl ?_
    refine xs_f 2351 r_286_2349 rfl ?_
    refine xs_f 2352 r_286_2351 rfl ?_
    refine xs_f 2353 r_286_2352 rfl ?_
    refine xs_ald 2354 0 r_286_2353 (fun _ _ => rfl) rfl rfl rfl (j := (i + 1)) (nI_addE rfl (nI_k 1)) (xarr_r rfl rfl) rfl (by show _ < S.1; omega) (by show S.1 ≤ 65536; omega) rfl ?_
    refine xs_call (lv2 := [(0, _), (1, _)]) r_286_2354 rfl rfl (by decide) (xcan_0 rfl rfl (by first | assumption | exact o0 | exact m9) (by rfl)) rfl (m_218 m9 g9 hG (by omega) (fun f2 x2 y2 => ?_))
    refine xK_v rfl ?_
    refine xs_f 2359 (lv2 := [(7, _), (6, _), (0, _), (1, _), (2, _), (3, _), (4, _), (5, _)]) r_286_2357 rfl ?_
    refine xs_f 2360 r_286_2359 rfl ?_
    refine xs_call (lv2 := [(0, _)]) r_286_2360 rfl rfl (by decide) (xcan_0 rfl rfl x2 (by rfl)) rfl ?_
    refine xs_f 1 r_149_0 rfl ?_
    refine xs_get 4 r_149_1 rfl rfl x2 (by rfl) ?_
    refine xs_ret r_149_4 rfl ?_
    refine xK_v rfl ?_
    refine xs_f 2365 r_286_2363 rfl ?_
    refine xs_if 2370 2368 r_286_2365 rfl (fun hth => ?_) (fun hth => ?_)
    · refine xs_f 2372 r_286_2370 rfl ?_
      refine xs_f 2375 r_286_2372 rfl ?_
      refine xs_f 2376 r_286_2375 rfl ?_
      refine xs_f 2377 r_286_2376 rfl ?_
      refine xs_aldL 2378 r_286_2377 (fun _ _ => rfl) rfl rfl rfl (j := 0) (nI_k 0) (O9.fr (y2 _ (by omega))) (by omega) ?_
      rw [xw_s]
      refine xs_f 2380 r_286_2378 rfl ?_
      refine xs_f 2381 r_286_2380 rfl ?_
      refine xs_f 2382 r_286_2381 rfl ?_
      refine xs_if 2387 2385 r_286_2382 rfl (fun hl => ?_) (fun hl => ?_)
      · refine xs_f 2897 r_286_2387 rfl ?_
        exact xP_lv [(0, .ref 12), (1, .ref 32), (2, .ref 809), (3, .ref 818), (4, .ref 819), (5, .int (nI i))] rfl ⟨rfl, rfl, rfl, rfl, rfl, rfl, trivial⟩ (k _ (hP.q (h2 := (f2, _)) (fun x h1 h2 h3 h4 => (y2 x (by omega)).trans (e9 x h2 h4)) ⟨_, _, _, x2⟩ ⟨_, O9.fr (y2 _ (by omega))⟩ (D9.fr (y2 _ (by omega))) ⟨_, _, _, c9.fr (fun x h1 h2 => y2 x (by omega))⟩ B9))
      · exact absurd (by rw [q9]; exact lg_cmp_r _) hl
    · exact absurd (by first | exact congrArg nI z9 | rfl) hth
  · rw [hR] at z9
    have c9 := hC
    have O9 := hO
    have D9 := hD
    have e9 : ∀ x, x ≠ 818 → (x < 794 ∨ 804 ≤ x) → (xbump h).1 x = h.1 x := fun _ _ _ => rfl
    have m9 := (e9 809 (by omega) (by omega)).trans m0
    have g9 := g0.fr (e9 _ (by omega) (by omega))
    have B9 : (xbump h).2 = h.2 ∨ (xbump h).2 = (xbump h).2 := Or.inr rfl
    refine xK_c (lv2 := [(0, _), (1, _), (2, _)]) rfl rfl rfl rfl ?_
    refine xs_f 14 r_276_13 rfl ?_
    refine xs_ret r_276_14 rfl ?_
    refine xK_v rfl ?_
    refine xs_f 2347 (lv2 := [(6, _), (0, _), (1, _), (2, _), (3, _), (4, _), (5, _)]) r_286_2345 rfl ?_
    refine xs_f 2348 r_286_2347 rfl ?_
    refine xs_f 2349 r_286_2348 rfl ?_
    refine xs_f 2351 r_286_2349 rfl ?_
    refine xs_f 2352 r_286_2351 rfl ?_
    refine xs_f 2353 r_286_2352 rfl ?_
    refine xs_ald 2354 0 r_286_2353 (fun _ _ => rfl) rfl rfl rfl (j := (i + 1)) (nI_addE rfl (nI_k 1)) (xarr_r rfl rfl) rfl (by show _ < S.1; omega) (by show S.1 ≤ 65536; omega) rfl ?_
    refine xs_call (lv2 := [(0, _), (1, _)]) r_286_2354 rfl rfl (by decide) (xcan_0 rfl rfl (by first | assumption | exact o0 | exact m9) (by rfl)) rfl (m_218 m9 g9 hG (by omega) (fun f2 x2 y2 => ?_))
    refine xK_v rfl ?_
    refine xs_f 2359 (lv2 := [(7, _), (6, _), (0, _), (1, _), (2, _), (3, _), (4, _), (5, _)]) r_286_2357 rfl ?_
    refine xs_f 2360 r_286_2359 rfl ?_
    refine xs_call (lv2 := [(0, _)]) r_286_2360 rfl rfl (by decide) (xcan_0 rfl rfl x2 (by rfl)) rfl ?_
    refine xs_f 1 r_149_0 rfl ?_
    refine xs_get 4 r_149_1 rfl rfl x2 (by rfl) ?_
    refine xs_ret r_149_4 rfl ?_
    refine xK_v rfl ?_
    refine xs_f 2365 r_286_2363 rfl ?_
    refine xs_if 2370 2368 r_286_2365 rfl (fun hth => ?_) (fun hth => ?_)
    · refine xs_f 2372 r_286_2370 rfl ?_
      refine xs_f 2387 r_286_2372 rfl ?_
      refine xs_f 2897 r_286_2387 rfl ?_
      exact xP_lv [(0, .ref 12), (1, .ref 32), (2, .ref 809), (3, .ref 818), (4, .ref 819), (5, .int (nI i))] rfl ⟨rfl, rfl, rfl, rfl, rfl, rfl, trivial⟩ (k _ (hP.q (h2 := (f2, _)) (fun x h1 h2 h3 h4 => (y2 x (by omega)).trans (e9 x h2 h4)) ⟨_, _, _, x2⟩ ⟨_, O9.fr (y2 _ (by omega))⟩ (D9.fr (y2 _ (by omega))) ⟨_, _, _, c9.fr (fun x h1 h2 => y2 x (by omega))⟩ B9))
    · exact absurd (by first | exact congrArg nI z9 | rfl) hth

theorem lw_43 {S : XSc} {d : Nat} {h : XH} {Q : XO → XH → Prop} {i c : Nat} (hi : i + 7 ≤ S.1) (hL : S.1 ≤ 3584) (hc : c ≤ 511) (hI : LwI h c) (k : ∀ h2, LwI h2 (c + 1) → xP S (d + 14) 286 2897 [(0, .ref 12), (1, .ref 32), (2, .ref 809), (3, .ref 818), (4, .ref 819), (5, .int (nI i))] [] h2 Q) : xP S (d + 14) 286 2583 [(0, .ref 12), (1, .ref 32), (2, .ref 809), (3, .ref 818), (4, .ref 819), (5, .int (nI i))] [] h Q := by
  obtain ⟨H, Sv, pos, ch, sv, K, ea, fa, G, tn, Bu, on, Le, hP⟩ := hI
  obtain ⟨hX, hS, ⟨W, lo, hi2, hC⟩, ⟨p0, cc0, nu0, hT⟩, hZ, ⟨B, Mo, Pa, th, sp, wr, hM⟩, ⟨w0, hO⟩, hD, ⟨hK, h8, ht, hon⟩, hcn⟩ := id hP
  obtain ⟨o0, hHi, hSv, G8, hG8⟩ := id hX
  obtain ⟨mn, np, no, nn, N, sc, ho, TS, TH, tr, pl, q, s, R, hB, hr, hk, hN, hs⟩ := id hS
  obtain ⟨hG, ⟨r2, r3, r4⟩, r5, r6, r7, r8⟩ := id hr
  obtain ⟨m0, g0, b0, H0, S0, U0, L0, M0, A0⟩ := id hM
  have np5 := hG.1.2
  have no6 := hG.2.1.2
  have mm5 : ∀ i, i < no → (gQ G mn i).2.2.1 ≤ 5 := fun i hi => (hG.2.2 i (by omega)).2
  have hR : (if ea = -1 then ((1, 0) : XR) else (0, ea)) = (if ea = -1 then ((1, 0) : XR) else (0, ea)) := rfl
  refine xs_f 2584 r_286_2583 rfl ?_
  refine xs_f 2585 r_286_2584 rfl ?_
  refine xs_call (lv2 := [(0, _), (1, _)]) r_286_2585 rfl rfl (by decide) (xcan_3 rfl rfl) rfl ?_
  refine xs_f 1 r_280_0 rfl ?_
  refine xs_f 2 r_280_1 rfl ?_
  refine xs_f 3 r_280_2 rfl ?_
  refine xs_call (lv2 := [(0, _)]) r_280_3 rfl rfl (by decide) (xcan_0 rfl rfl (by first | assumption | exact xup_s | exact o0 | exact m9 | (refine (xup_n (by omega)).trans ?_; first | assumption | exact xup_s | exact o0 | exact m9) | (refine (xup_n (by omega)).trans ((xup_n (by omega)).trans ?_); first | assumption | exact xup_s | exact o0 | exact m9) | (refine (xup_n (by omega)).trans ((xup_n (by omega)).trans ((xup_n (by omega)).trans ?_)); first | assumption | exact xup_s | exact o0 | exact m9)) (by rfl)) rfl (e_127 o0 hB (by omega) trivial (fun z9 => ?_) (fun z9 => ?_))
  · rw [hR] at z9
    have q9 : ((if ea = -1 then ((1, 0) : XR) else (0, ea)) : XR).2 = (if ea = -1 then ((1, 0) : XR) else (0, ea)).2 := congrArg Prod.snd hR
    have c8 := hC
    have e8 : ∀ x, (x < 794 ∨ 804 ≤ x) → h.1 x = h.1 x := fun _ _ => rfl
    refine xK_v rfl ?_
    refine xs_f 7 r_280_6 rfl ?_
    refine xs_astL 8 r_280_7 (fun _ _ => rfl) rfl rfl rfl (j := 0) (nI_k 0) hO (by omega) (fun f1 O9 y1 => ?_)
    have z1 : ∀ x, x ≠ 818 → (x < 794 ∨ 804 ≤ x) → f1 x = h.1 x := fun x h1 h2 => (y1 x (by omega)).trans (e8 x h2)
    have e9 := z1
    have c9 := c8.fr (g := f1) (fun x h1 h2 => y1 x (by omega))
    have m9 := (e9 809 (by omega) (by omega)).trans m0
    have g9 := g0.fr (e9 _ (by omega) (by omega))
    have D9 := hD.fr (e9 _ (by omega) (by omega))
    have B9 : h.2 = h.2 ∨ h.2 = (xbump h).2 := Or.inl rfl
    refine xs_f 14 r_280_8 rfl ?_
    refine xs_f 15 r_280_14 rfl ?_
    refine xs_ret r_280_15 rfl ?_
    refine xK_v rfl ?_
    refine xs_f 2590 (lv2 := [(6, _), (0, _), (1, _), (2, _), (3, _), (4, _), (5, _)]) r_286_2588 rfl ?_
    refine xs_f 2591 r_286_2590 rfl ?_
    refine xs_call (lv2 := [(0, _)]) r_286_2591 rfl rfl (by decide) (xcan_0 rfl rfl (by first | assumption | exact o0 | exact m9) (by rfl)) rfl (m_232 m9 g9 hG (by omega) trivial (fun f2 x2 y2 => ?_))
    refine xK_v rfl ?_
    refine xs_f 2596 (lv2 := [(7, _), (6, _), (0, _), (1, _), (2, _), (3, _), (4, _), (5, _)]) r_286_2594 rfl ?_
    refine xs_f 2597 r_286_2596 rfl ?_
    refine xs_call (lv2 := [(0, _)]) r_286_2597 rfl rfl (by decide) (xcan_0 rfl rfl x2 (by rfl)) rfl ?_
    refine xs_f 1 r_149_0 rfl ?_
    refine xs_get 4 r_149_1 rfl rfl x2 (by rfl) ?_
    refine xs_ret r_149_4 rfl ?_
    refine xK_v rfl ?_
    refine xs_f 2602 r_286_2600 rfl ?_
    refine xs_if 2607 2605 r_286_2602 rfl (fun hth => ?_) (fun hth => ?_)
    · refine xs_f 2609 r_286_2607 rfl ?_
      refine xs_f 2612 r_286_2609 rfl ?_
      refine xs_f 2613 r_286_2612 rfl ?_
      refine xs_f 2614 r_286_2613 rfl ?_
      refine xs_aldL 2615 r_286_2614 (fun _ _ => rfl) rfl rfl rfl (j := 0) (nI_k 0) (O9.fr (y2 _ (by omega))) (by omega) ?_
      rw [xw_s]
      refine xs_f 2617 r_286_2615 rfl ?_
      refine xs_f 2618 r_286_2617 rfl ?_
      refine xs_f 2619 r_286_2618 rfl ?_
      refine xs_if 2624 2622 r_286_2619 rfl (fun hl => ?_) (fun hl => ?_)
      · refine xs_f 2897 r_286_2624 rfl ?_
        exact xP_lv [(0, .ref 12), (1, .ref 32), (2, .ref 809), (3, .ref 818), (4, .ref 819), (5, .int (nI i))] rfl ⟨rfl, rfl, rfl, rfl, rfl, rfl, trivial⟩ (k _ (hP.q (h2 := (f2, _)) (fun x h1 h2 h3 h4 => (y2 x (by omega)).trans (e9 x h2 h4)) ⟨_, _, _, x2⟩ ⟨_, O9.fr (y2 _ (by omega))⟩ (D9.fr (y2 _ (by omega))) ⟨_, _, _, c9.fr (fun x h1 h2 => y2 x (by omega))⟩ B9))
      · exact absurd (by rw [q9]; exact lg_cmp_r _) hl
    · exact absurd (by first | exact congrArg nI z9 | rfl) hth
  · rw [hR] at z9
    have c9 := hC
    have O9 := hO
    have D9 := hD
    have e9 : ∀ x, x ≠ 818 → (x < 794 ∨ 804 ≤ x) → (xbump h).1 x = h.1 x := fun _ _ _ => rfl
    have m9 := (e9 809 (by omega) (by omega)).trans m0
    have g9 := g0.fr (e9 _ (by omega) (by omega))
    have B9 : (xbump h).2 = h.2 ∨ (xbump h).2 = (xbump h).2 := Or.inr rfl
    refine xK_c (lv2 := [(0, _), (1, _)]) rfl rfl rfl rfl ?_
    refine xs_f 13 r_280_12 rfl ?_
    refine xs_ret r_280_13 rfl ?_
    refine xK_v rfl ?_
    refine xs_f 2590 (lv2 := [(6, _), (0, _), (1, _), (2, _), (3, _), (4, _), (5, _)]) r_286_2588 rfl ?_
    refine xs_f 2591 r_286_2590 rfl ?_
    refine xs_call (lv2 := [(0, _)]) r_286_2591 rfl rfl (by decide) (xcan_0 rfl rfl (by first | assumption | exact o0 | exact m9) (by rfl)) rfl (m_232 m9 g9 hG (by omega) trivial (fun f2 x2 y2 => ?_))
    refine xK_v rfl ?_
    refine xs_f 2596 (lv2 := [(7, _), (6, _), (0, _), (1, _), (2, _), (3, _), (4, _), (5, _)]) r_286_2594 rfl ?_
    refine xs_f 2597 r_286_2596 rfl ?_
    refine xs_call (lv2 := [(0, _)]) r_286_2597 rfl rfl (by decide) (xcan_0 rfl rfl x2 (by rfl)) rfl ?_
    refine xs_f 1 r_149_0 rfl ?_
    refine xs_get 4 r_149_1 rfl rfl x2 (by rfl) ?_
    refine xs_ret r_149_4 rfl ?_
    refine xK_v rfl ?_
    refine xs_f 2602 r_286_2600 rfl ?_
    refine xs_if 2607 2605 r_286_2602 rfl (fun hth => ?_) (fun hth => ?_)
    · refine xs_f 2609 r_286_2607 rfl ?_
      refine xs_f 2624 r_286_2609 rfl ?_
      refine xs_f 2897 r_286_2624 rfl ?_
      exact xP_lv [(0, .ref 12), (1, .ref 32), (2, .ref 809), (3, .ref 818), (4, .ref 819), (5, .int (nI i))] rfl ⟨rfl, rfl, rfl, rfl, rfl, rfl, trivial⟩ (k _ (hP.q (h2 := (f2, _)) (fun x h1 h2 h3 h4 => (y2 x (by omega)).trans (e9 x h2 h4)) ⟨_, _, _, x2⟩ ⟨_, O9.fr (y2 _ (by omega))⟩ (D9.fr (y2 _ (by omega))) ⟨_, _, _, c9.fr (fun x h1 h2 => y2 x (by omega))⟩ B9))
    · exact absurd (by first | exact congrArg nI z9 | rfl) hth

theorem lw_44 {S : XSc} {d : Nat} {h : XH} {Q : XO → XH → Prop} {i c : Nat} (hi : i + 7 ≤ S.1) (hL : S.1 ≤ 3584) (hc : c ≤ 511) (hI : LwI h c) (k : ∀ h2, LwI h2 (c + 1) → xP S (d + 14) 286 2897 [(0, .ref 12), (1, .ref 32), (2, .ref 809), (3, .ref 818), (4, .ref 819), (5, .int (nI i))] [] h2 Q) : xP S (d + 14) 286 2627 [(0, .ref 12), (1, .ref 32), (2, .ref 809), (3, .ref 818), (4, .ref 819), (5, .int (nI i))] [] h Q := by
  obtain ⟨H, Sv, pos, ch, sv, K, ea, fa, G, tn, Bu, on, Le, hP⟩ := hI
  obtain ⟨hX, hS, ⟨W, lo, hi2, hC⟩, ⟨p0, cc0, nu0, hT⟩, hZ, ⟨B, Mo, Pa, th, sp, wr, hM⟩, ⟨w0, hO⟩, hD, ⟨hK, h8, ht, hon⟩, hcn⟩ := id hP
  obtain ⟨o0, hHi, hSv, G8, hG8⟩ := id hX
  obtain ⟨mn, np, no, nn, N, sc, ho, TS, TH, tr, pl, q, s, R, hB, hr, hk, hN, hs⟩ := id hS
  obtain ⟨hG, ⟨r2, r3, r4⟩, r5, r6, r7, r8⟩ := id hr
  obtain ⟨m0, g0, b0, H0, S0, U0, L0, M0, A0⟩ := id hM
  have np5 := hG.1.2
  have no6 := hG.2.1.2
  have mm5 : ∀ i, i < no → (gQ G mn i).2.2.1 ≤ 5 := fun i hi => (hG.2.2 i (by omega)).2
  have hR : (if fa = -1 then ((1, 0) : XR) else (0, fa)) = (if fa = -1 then ((1, 0) : XR) else (0, fa)) := rfl
  refine xs_f 2628 r_286_2627 rfl ?_
  refine xs_f 2629 r_286_2628 rfl ?_
  refine xs_call (lv2 := [(0, _), (1, _)]) r_286_2629 rfl rfl (by decide) (xcan_3 rfl rfl) rfl ?_
  refine xs_f 1 r_281_0 rfl ?_
  refine xs_f 2 r_281_1 rfl ?_
  refine xs_f 3 r_281_2 rfl ?_
  refine xs_call (lv2 := [(0, _)]) r_281_3 rfl rfl (by decide) (xcan_0 rfl rfl (by first | assumption | exact xup_s | exact o0 | exact m9 | (refine (xup_n (by omega)).trans ?_; first | assumption | exact xup_s | exact o0 | exact m9) | (refine (xup_n (by omega)).trans ((xup_n (by omega)).trans ?_); first | assumption | exact xup_s | exact o0 | exact m9) | (refine (xup_n (by omega)).trans ((xup_n (by omega)).trans ((xup_n (by omega)).trans ?_)); first | assumption | exact xup_s | exact o0 | exact m9)) (by rfl)) rfl (e_128 o0 hB (by omega) trivial (fun z9 => ?_) (fun z9 => ?_))
  · rw [hR] at z9
    have q9 : ((if fa = -1 then ((1, 0) : XR) else (0, fa)) : XR).2 = (if fa = -1 then ((1, 0) : XR) else (0, fa)).2 := congrArg Prod.snd hR
    have c8 := hC
    have e8 : ∀ x, (x < 794 ∨ 804 ≤ x) → h.1 x = h.1 x := fun _ _ => rfl
    refine xK_v rfl ?_
    refine xs_f 7 r_281_6 rfl ?_
    refine xs_astL 8 r_281_7 (fun _ _ => rfl) rfl rfl rfl (j := 0) (nI_k 0) hO (by omega) (fun f1 O9 y1 => ?_)
    have z1 : ∀ x, x ≠ 818 → (x < 794 ∨ 804 ≤ x) → f1 x = h.1 x := fun x h1 h2 => (y1 x (by omega)).trans (e8 x h2)
    have e9 := z1
    have c9 := c8.fr (g := f1) (fun x h1 h2 => y1 x (by omega))
    have m9 := (e9 809 (by omega) (by omega)).trans m0
    have g9 := g0.fr (e9 _ (by omega) (by omega))
    have D9 := hD.fr (e9 _ (by omega) (by omega))
    have B9 : h.2 = h.2 ∨ h.2 = (xbump h).2 := Or.inl rfl
    refine xs_f 14 r_281_8 rfl ?_
    refine xs_f 15 r_281_14 rfl ?_
    refine xs_ret r_281_15 rfl ?_
    refine xK_v rfl ?_
    refine xs_f 2634 (lv2 := [(6, _), (0, _), (1, _), (2, _), (3, _), (4, _), (5, _)]) r_286_2632 rfl ?_
    refine xs_f 2635 r_286_2634 rfl ?_
    refine xs_call (lv2 := [(0, _)]) r_286_2635 rfl rfl (by decide) (xcan_0 rfl rfl (by first | assumption | exact o0 | exact m9) (by rfl)) rfl (m_233 m9 g9 hG (by omega) trivial (fun f2 x2 y2 => ?_))
    refine xK_v rfl ?_
    refine xs_f 2640 (lv2 := [(7, _), (6, _), (0, _), (1, _), (2, _), (3, _), (4, _), (5, _)]) r_286_2638 rfl ?_
    refine xs_f 2641 r_286_2640 rfl ?_
    refine xs_call (lv2 := [(0, _)]) r_286_2641 rfl rfl (by decide) (xcan_0 rfl rfl x2 (by rfl)) rfl ?_
    refine xs_f 1 r_149_0 rfl ?_
    refine xs_get 4 r_149_1 rfl rfl x2 (by rfl) ?_
    refine xs_ret r_149_4 rfl ?_
    refine xK_v rfl ?_
    refine xs_f 2646 r_286_2644 rfl ?_
    refine xs_if 2651 2649 r_286_2646 rfl (fun hth => ?_) (fun hth => ?_)
    · refine xs_f 2653 r_286_2651 rfl ?_
      refine xs_f 2656 r_286_2653 rfl ?_
      refine xs_f 2657 r_286_2656 rfl ?_
      refine xs_f 2658 r_286_2657 rfl ?_
      refine xs_aldL 2659 r_286_2658 (fun _ _ => rfl) rfl rfl rfl (j := 0) (nI_k 0) (O9.fr (y2 _ (by omega))) (by omega) ?_
      rw [xw_s]
      refine xs_f 2661 r_286_2659 rfl ?_
      refine xs_f 2662 r_286_2661 rfl ?_
      refine xs_f 2663 r_286_2662 rfl ?_
      refine xs_if 2668 2666 r_286_2663 rfl (fun hl => ?_) (fun hl => ?_)
      · refine xs_f 2897 r_286_2668 rfl ?_
        exact xP_lv [(0, .ref 12), (1, .ref 32), (2, .ref 809), (3, .ref 818), (4, .ref 819), (5, .int (nI i))] rfl ⟨rfl, rfl, rfl, rfl, rfl, rfl, trivial⟩ (k _ (hP.q (h2 := (f2, _)) (fun x h1 h2 h3 h4 => (y2 x (by omega)).trans (e9 x h2 h4)) ⟨_, _, _, x2⟩ ⟨_, O9.fr (y2 _ (by omega))⟩ (D9.fr (y2 _ (by omega))) ⟨_, _, _, c9.fr (fun x h1 h2 => y2 x (by omega))⟩ B9))
      · exact absurd (by rw [q9]; exact lg_cmp_r _) hl
    · exact absurd (by first | exact congrArg nI z9 | rfl) hth
  · rw [hR] at z9
    have c9 := hC
    have O9 := hO
    have D9 := hD
    have e9 : ∀ x, x ≠ 818 → (x < 794 ∨ 804 ≤ x) → (xbump h).1 x = h.1 x := fun _ _ _ => rfl
    have m9 := (e9 809 (by omega) (by omega)).trans m0
    have g9 := g0.fr (e9 _ (by omega) (by omega))
    have B9 : (xbump h).2 = h.2 ∨ (xbump h).2 = (xbump h).2 := Or.inr rfl
    refine xK_c (lv2 := [(0, _), (1, _)]) rfl rfl rfl rfl ?_
    refine xs_f 13 r_281_12 rfl ?_
    refine xs_ret r_281_13 rfl ?_
    refine xK_v rfl ?_
    refine xs_f 2634 (lv2 := [(6, _), (0, _), (1, _), (2, _), (3, _), (4, _), (5, _)]) r_286_2632 rfl ?_
    refine xs_f 2635 r_286_2634 rfl ?_
    refine xs_call (lv2 := [(0, _)]) r_286_2635 rfl rfl (by decide) (xcan_0 rfl rfl (by first | assumption | exact o0 | exact m9) (by rfl)) rfl (m_233 m9 g9 hG (by omega) trivial (fun f2 x2 y2 => ?_))
    refine xK_v rfl ?_
    refine xs_f 2640 (lv2 := [(7, _), (6, _), (0, _), (1, _), (2, _), (3, _), (4, _), (5, _)]) r_286_2638 rfl ?_
    refine xs_f 2641 r_286_2640 rfl ?_
    refine xs_call (lv2 := [(0, _)]) r_286_2641 rfl rfl (by decide) (xcan_0 rfl rfl x2 (by rfl)) rfl ?_
    refine xs_f 1 r_149_0 rfl ?_
    refine xs_get 4 r_149_1 rfl rfl x2 (by rfl) ?_
    refine xs_ret r_149_4 rfl ?_
    refine xK_v rfl ?_
    refine xs_f 2646 r_286_2644 rfl ?_
    refine xs_if 2651 2649 r_286_2646 rfl (fun hth => ?_) (fun hth => ?_)
    · refine xs_f 2653 r_286_2651 rfl ?_
      refine xs_f 2668 r_286_2653 rfl ?_
      refine xs_f 2897 r_286_2668 rfl ?_
      exact xP_lv [(0, .ref 12), (1, .ref 32), (2, .ref 809), (3, .ref 818), (4, .ref 819), (5, .int (nI i))] rfl ⟨rfl, rfl, rfl, rfl, rfl, rfl, trivial⟩ (k _ (hP.q (h2 := (f2, _)) (fun x h1 h2 h3 h4 => (y2 x (by omega)).trans (e9 x h2 h4)) ⟨_, _, _, x2⟩ ⟨_, O9.fr (y2 _ (by omega))⟩ (D9.fr (y2 _ (by omega))) ⟨_, _, _, c9.fr (fun x h1 h2 => y2 x (by omega))⟩ B9))
    · exact absurd (by first | exact congrArg nI z9 | rfl) hth

