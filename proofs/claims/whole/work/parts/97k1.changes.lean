/-! the law: the calls that change it -/
theorem lw_0 {S : XSc} {d : Nat} {h : XH} {Q : XO → XH → Prop} {i c : Nat} (hi : i + 7 ≤ S.1) (hL : S.1 ≤ 3584) (hc : c ≤ 511) (hI : LwI h c) (k : ∀ h2, LwI h2 (c + 1) → xP S (d + 14) 286 2897 [(0, .ref 12), (1, .ref 32), (2, .ref 809), (3, .ref 818), (4, .ref 819), (5, .int (nI i))] [] h2 Q) : xP S (d + 14) 286 264 [(0, .ref 12), (1, .ref 32), (2, .ref 809), (3, .ref 818), (4, .ref 819), (5, .int (nI i))] [] h Q := by
  obtain ⟨H, Sv, pos, ch, sv, K, ea, fa, G, tn, Bu, on, Le, hP⟩ := hI
  obtain ⟨hX, hS, ⟨W, lo, hi2, hC⟩, ⟨p0, cc0, nu0, hT⟩, hZ, ⟨B, Mo, Pa, th, sp, wr, hM⟩, ⟨w0, hO⟩, hD, ⟨hK, h8, ht, hon⟩, hcn⟩ := id hP
  obtain ⟨o0, hHi, hSv, G8, hG8⟩ := id hX
  obtain ⟨mn, np, no, nn, N, sc, ho, TS, TH, tr, pl, q, s, R, hB, hr, hk, hN, hs⟩ := id hS
  obtain ⟨hG, ⟨r2, r3, r4⟩, r5, r6, r7, r8⟩ := id hr
  obtain ⟨m0, g0, b0, H0, S0, U0, L0, M0, A0⟩ := id hM
  have np5 := hG.1.2
  have no6 := hG.2.1.2
  have mm5 : ∀ i, i < no → (gQ G mn i).2.2.1 ≤ 5 := fun i hi => (hG.2.2 i (by omega)).2
  refine xs_f 265 r_286_264 rfl ?_
  refine xs_f 266 r_286_265 rfl ?_
  refine xs_call (lv2 := [(0, _), (1, _)]) r_286_266 rfl rfl (by decide) (xcan_3 rfl rfl) rfl ?_
  refine xs_f 1 r_243_0 rfl ?_
  refine xs_f 2 r_243_1 rfl ?_
  refine xs_f 3 r_243_2 rfl ?_
  refine xs_call (lv2 := [(0, _)]) r_243_3 rfl rfl (by decide) (xcan_0 rfl rfl (by first | assumption | exact xup_s | exact o0 | exact M9.1 | (refine (xup_n (by omega)).trans ?_; first | assumption | exact xup_s | exact o0 | exact M9.1) | (refine (xup_n (by omega)).trans ((xup_n (by omega)).trans ?_); first | assumption | exact xup_s | exact o0 | exact M9.1) | (refine (xup_n (by omega)).trans ((xup_n (by omega)).trans ((xup_n (by omega)).trans ?_)); first | assumption | exact xup_s | exact o0 | exact M9.1)) (by rfl)) rfl (e_84 hX hB hr hk hN hs (by omega) (fl5 (joinF_le np) (fun z => absurd z (by unfold joinF; split <;> omega)) (fun z => absurd z (by unfold joinF; split <;> omega)) (fun z => absurd z (by unfold joinF; split <;> omega)) (fun z => absurd z (by unfold joinF; split <;> omega)) (fun z9 => ?_)) (fun z9 f8 pos8 X8 S8 y8 => ?_))
  · have zM := cJoin_c np5 z9
    have X8 := hX
    have S8 := hS
    have T8 : ∃ p cc nu, TxP h.1 804 tn p cc Bu nu := ⟨_, _, _, hT⟩
    have e8 : ∀ x, (((794 ≤ x ∧ x < 804) ∨ 807 ≤ x)) → h.1 x = h.1 x := fun _ _ => rfl
    have X9 := X8
    have S9 := S8
    have T9 := T8
    have O9 : LA (xbump (h.1, h.2)).1 818 1 w0 := hO.fr (e8 818 (by omega))
    have e9 : ∀ x, (((794 ≤ x ∧ x < 804) ∨ 807 ≤ x)) → x ≠ 818 → (xbump (h.1, h.2)).1 x = h.1 x := fun x h1 h2 => e8 x h1
    have M9 := hM.fr (fun x z1 z2 => e9 x (by omega) (by omega))
    have B9 : (xbump (h.1, h.2)).2 = h.2 ∨ (xbump (h.1, h.2)).2 = (xbump h).2 := Or.inr rfl
    refine xK_c (lv2 := [(0, _), (1, _)]) rfl rfl rfl rfl ?_
    refine xs_f 13 r_243_12 rfl ?_
    refine xs_ret r_243_13 rfl ?_
    refine xK_v rfl ?_
    refine xs_f 271 (lv2 := [(6, _), (0, _), (1, _), (2, _), (3, _), (4, _), (5, _)]) r_286_269 rfl ?_
    refine xs_f 272 r_286_271 rfl ?_
    refine xs_call (lv2 := [(0, _)]) r_286_272 rfl rfl (by decide) (xcan_0 rfl rfl M9.1 (by rfl)) rfl (m_162 M9 hG (by omega) h8 (fun hc f2 M2 y2 => ?_) (fun hc => absurd hc (by rw [zM]; decide)))
    refine xK_v rfl ?_
    refine xs_f 277 (lv2 := [(7, _), (6, _), (0, _), (1, _), (2, _), (3, _), (4, _), (5, _)]) r_286_275 rfl ?_
    refine xs_f 278 r_286_277 rfl ?_
    refine xs_call (lv2 := [(0, _)]) r_286_278 rfl rfl (by decide) (xcan_0 rfl rfl M2.1 (by rfl)) rfl ?_
    refine xs_f 1 r_149_0 rfl ?_
    refine xs_get 4 r_149_1 rfl rfl M2.1 (by rfl) ?_
    refine xs_ret r_149_4 rfl ?_
    refine xK_v rfl ?_
    refine xs_f 283 r_286_281 rfl ?_
    refine xs_if 288 286 r_286_283 rfl (fun hth => ?_) (fun hth => ?_)
    · refine xs_f 290 r_286_288 rfl ?_
      refine xs_f 305 r_286_290 rfl ?_
      refine xs_f 2897 r_286_305 rfl ?_
      obtain ⟨p9, c9, n9, t9⟩ := T9
      exact xP_lv [(0, .ref 12), (1, .ref 32), (2, .ref 809), (3, .ref 818), (4, .ref 819), (5, .int (nI i))] rfl ⟨rfl, rfl, rfl, rfl, rfl, rfl, trivial⟩ (k _ (hP.p (h2 := (f2, _)) (X9.fr (fun x hx => y2 x (by omega))) (S9.fr (fun x z1 z2 => y2 x (by omega))) ⟨p9, c9, n9, t9.fr (fun x z1 z2 => y2 x (by omega))⟩ ⟨_, _, _, _, _, _, M2⟩ ⟨_, O9.fr (y2 _ (by omega))⟩ (fun x hx => (y2 x (by omega)).trans (e9 x (by omega) (by omega))) B9 (by omega) (by omega) (by omega)))
    · exact absurd (by first | exact congrArg nI zM | rfl) hth
  · have zM := (cJoin_0 np5).mpr z9
    have q9 : nI np = nI np := rfl
    have T8 : ∃ p cc nu, TxP f8 804 tn p cc Bu nu := ⟨_, _, _, hT.fr (fun x z1 z2 => y8 x (by omega))⟩
    have e8 : ∀ x, (((794 ≤ x ∧ x < 804) ∨ 807 ≤ x)) → f8 x = h.1 x := fun x h1 => y8 x (by omega)
    refine xK_v rfl ?_
    refine xs_f 7 r_243_6 rfl ?_
    refine xs_astL 8 r_243_7 (fun _ _ => rfl) rfl rfl rfl (j := 0) (nI_k 0) (hO.fr (e8 818 (by omega))) (by omega) (fun f1 O9 y1 => ?_)
    have X9 := X8.fr (g := f1) (fun x hx => y1 x (by omega))
    have S9 := S8.fr (g := f1) (fun x z1 z2 => y1 x (by omega))
    obtain ⟨p8, c8, n8, t8⟩ := T8
    have T9 : ∃ p cc nu, TxP f1 804 _ p cc _ nu := ⟨p8, c8, n8, t8.fr (fun x z1 z2 => y1 x (by omega))⟩
    have e9 : ∀ x, (((794 ≤ x ∧ x < 804) ∨ 807 ≤ x)) → x ≠ 818 → f1 x = h.1 x := fun x h1 h2 => (y1 x (by omega)).trans (e8 x h1)
    have M9 := hM.fr (fun x z1 z2 => e9 x (by omega) (by omega))
    have B9 : h.2 = h.2 ∨ h.2 = (xbump h).2 := Or.inl rfl
    refine xs_f 14 r_243_8 rfl ?_
    refine xs_f 15 r_243_14 rfl ?_
    refine xs_ret r_243_15 rfl ?_
    refine xK_v rfl ?_
    refine xs_f 271 (lv2 := [(6, _), (0, _), (1, _), (2, _), (3, _), (4, _), (5, _)]) r_286_269 rfl ?_
    refine xs_f 272 r_286_271 rfl ?_
    refine xs_call (lv2 := [(0, _)]) r_286_272 rfl rfl (by decide) (xcan_0 rfl rfl M9.1 (by rfl)) rfl (m_162 M9 hG (by omega) h8 (fun hc => absurd zM hc) (fun hc f2 M2 y2 => ?_))
    refine xK_v rfl ?_
    refine xs_f 277 (lv2 := [(7, _), (6, _), (0, _), (1, _), (2, _), (3, _), (4, _), (5, _)]) r_286_275 rfl ?_
    refine xs_f 278 r_286_277 rfl ?_
    refine xs_call (lv2 := [(0, _)]) r_286_278 rfl rfl (by decide) (xcan_0 rfl rfl M2.1 (by rfl)) rfl ?_
    refine xs_f 1 r_149_0 rfl ?_
    refine xs_get 4 r_149_1 rfl rfl M2.1 (by rfl) ?_
    refine xs_ret r_149_4 rfl ?_
    refine xK_v rfl ?_
    refine xs_f 283 r_286_281 rfl ?_
    refine xs_f 288 r_286_283 rfl ?_
    refine xs_f 290 r_286_288 rfl ?_
    refine xs_f 293 r_286_290 rfl ?_
    refine xs_f 294 r_286_293 rfl ?_
    refine xs_f 295 r_286_294 rfl ?_
    refine xs_aldL 296 r_286_295 (fun _ _ => rfl) rfl rfl rfl (j := 0) (nI_k 0) (O9.fr (y2 _ (by omega))) (by omega) ?_
    rw [xw_s]
    refine xs_f 298 r_286_296 rfl ?_
    refine xs_f 299 r_286_298 rfl ?_
    refine xs_f 300 r_286_299 rfl ?_
    refine xs_if 305 303 r_286_300 rfl (fun hl => ?_) (fun hl => ?_)
    · refine xs_f 2897 r_286_305 rfl ?_
      obtain ⟨p9, c9, n9, t9⟩ := T9
      exact xP_lv [(0, .ref 12), (1, .ref 32), (2, .ref 809), (3, .ref 818), (4, .ref 819), (5, .int (nI i))] rfl ⟨rfl, rfl, rfl, rfl, rfl, rfl, trivial⟩ (k _ (hP.p (h2 := (f2, _)) (X9.fr (fun x hx => y2 x (by omega))) (S9.fr (fun x z1 z2 => y2 x (by omega))) ⟨p9, c9, n9, t9.fr (fun x z1 z2 => y2 x (by omega))⟩ ⟨_, _, _, _, _, _, M2⟩ ⟨_, O9.fr (y2 _ (by omega))⟩ (fun x hx => (y2 x (by omega)).trans (e9 x (by omega) (by omega))) B9 (by omega) (by omega) (by omega)))
    · exact absurd (by rw [q9]; exact lg_cmp_r _) hl

theorem lw_1 {S : XSc} {d : Nat} {h : XH} {Q : XO → XH → Prop} {i c : Nat} (hi : i + 7 ≤ S.1) (hL : S.1 ≤ 3584) (hc : c ≤ 511) (hI : LwI h c) (k : ∀ h2, LwI h2 (c + 1) → xP S (d + 14) 286 2897 [(0, .ref 12), (1, .ref 32), (2, .ref 809), (3, .ref 818), (4, .ref 819), (5, .int (nI i))] [] h2 Q) : xP S (d + 14) 286 308 [(0, .ref 12), (1, .ref 32), (2, .ref 809), (3, .ref 818), (4, .ref 819), (5, .int (nI i))] [] h Q := by
  obtain ⟨H, Sv, pos, ch, sv, K, ea, fa, G, tn, Bu, on, Le, hP⟩ := hI
  obtain ⟨hX, hS, ⟨W, lo, hi2, hC⟩, ⟨p0, cc0, nu0, hT⟩, hZ, ⟨B, Mo, Pa, th, sp, wr, hM⟩, ⟨w0, hO⟩, hD, ⟨hK, h8, ht, hon⟩, hcn⟩ := id hP
  obtain ⟨o0, hHi, hSv, G8, hG8⟩ := id hX
  obtain ⟨mn, np, no, nn, N, sc, ho, TS, TH, tr, pl, q, s, R, hB, hr, hk, hN, hs⟩ := id hS
  obtain ⟨hG, ⟨r2, r3, r4⟩, r5, r6, r7, r8⟩ := id hr
  obtain ⟨m0, g0, b0, H0, S0, U0, L0, M0, A0⟩ := id hM
  have np5 := hG.1.2
  have no6 := hG.2.1.2
  have mm5 : ∀ i, i < no → (gQ G mn i).2.2.1 ≤ 5 := fun i hi => (hG.2.2 i (by omega)).2
  refine xs_f 309 r_286_308 rfl ?_
  refine xs_f 310 r_286_309 rfl ?_
  refine xs_f 312 r_286_310 rfl ?_
  refine xs_f 313 r_286_312 rfl ?_
  refine xs_f 314 r_286_313 rfl ?_
  refine xs_ald 315 0 r_286_314 (fun _ _ => rfl) rfl rfl rfl (j := (i + 1)) (nI_addE rfl (nI_k 1)) (xarr_r rfl rfl) rfl (by show _ < S.1; omega) (by show S.1 ≤ 65536; omega) rfl ?_
  refine xs_f 316 r_286_315 rfl ?_
  refine xs_call (lv2 := [(0, _), (1, _), (2, _)]) r_286_316 rfl rfl (by decide) (xcan_3 rfl rfl) rfl ?_
  refine xs_f 1 r_244_0 rfl ?_
  refine xs_f 2 r_244_1 rfl ?_
  refine xs_f 3 r_244_2 rfl ?_
  refine xs_f 4 r_244_3 rfl ?_
  refine xs_call (lv2 := [(0, _), (1, _)]) r_244_4 rfl rfl (by decide) (xcan_0 rfl rfl (by first | assumption | exact xup_s | exact o0 | exact M9.1 | (refine (xup_n (by omega)).trans ?_; first | assumption | exact xup_s | exact o0 | exact M9.1) | (refine (xup_n (by omega)).trans ((xup_n (by omega)).trans ?_); first | assumption | exact xup_s | exact o0 | exact M9.1) | (refine (xup_n (by omega)).trans ((xup_n (by omega)).trans ((xup_n (by omega)).trans ?_)); first | assumption | exact xup_s | exact o0 | exact M9.1)) (by rfl)) rfl (e_85 hX hB hr hk hN hs (by omega) (fl5 (askF_le no (S.2 (i + 1))) (fun z => absurd z (by unfold askF; (repeat' split) <;> omega)) (fun z => absurd z (by unfold askF; (repeat' split) <;> omega)) (fun z9 => ?_) (fun z => absurd z (by unfold askF; (repeat' split) <;> omega)) (fun z9 => ?_)) (fun z9 f8 pos8 X8 S8 y8 => ?_))
  · have zM := (cAsk_c no6).1 z9
    have X8 := hX
    have S8 := hS
    have T8 : ∃ p cc nu, TxP h.1 804 tn p cc Bu nu := ⟨_, _, _, hT⟩
    have e8 : ∀ x, (((794 ≤ x ∧ x < 804) ∨ 807 ≤ x)) → h.1 x = h.1 x := fun _ _ => rfl
    have X9 := X8
    have S9 := S8
    have T9 := T8
    have O9 : LA (xbump (h.1, h.2)).1 818 1 w0 := hO.fr (e8 818 (by omega))
    have e9 : ∀ x, (((794 ≤ x ∧ x < 804) ∨ 807 ≤ x)) → x ≠ 818 → (xbump (h.1, h.2)).1 x = h.1 x := fun x h1 h2 => e8 x h1
    have M9 := hM.fr (fun x z1 z2 => e9 x (by omega) (by omega))
    have B9 : (xbump (h.1, h.2)).2 = h.2 ∨ (xbump (h.1, h.2)).2 = (xbump h).2 := Or.inr rfl
    refine xK_c (lv2 := [(0, _), (1, _), (2, _)]) rfl rfl rfl rfl ?_
    refine xs_f 14 r_244_13 rfl ?_
    refine xs_ret r_244_14 rfl ?_
    refine xK_v rfl ?_
    refine xs_f 321 (lv2 := [(6, _), (0, _), (1, _), (2, _), (3, _), (4, _), (5, _)]) r_286_319 rfl ?_
    refine xs_f 322 r_286_321 rfl ?_
    refine xs_f 323 r_286_322 rfl ?_
    refine xs_f 325 r_286_323 rfl ?_
    refine xs_f 326 r_286_325 rfl ?_
    refine xs_f 327 r_286_326 rfl ?_
    refine xs_ald 328 0 r_286_327 (fun _ _ => rfl) rfl rfl rfl (j := (i + 1)) (nI_addE rfl (nI_k 1)) (xarr_r rfl rfl) rfl (by show _ < S.1; omega) (by show S.1 ≤ 65536; omega) rfl ?_
    refine xs_call (lv2 := [(0, _), (1, _)]) r_286_328 rfl rfl (by decide) (xcan_0 rfl rfl M9.1 (by rfl)) rfl (m_164 M9 hG (by omega) h8 (fun hc f2 M2 y2 => ?_) (fun hc => absurd hc (by rw [zM]; decide)))
    refine xK_v rfl ?_
    refine xs_f 333 (lv2 := [(7, _), (6, _), (0, _), (1, _), (2, _), (3, _), (4, _), (5, _)]) r_286_331 rfl ?_
    refine xs_f 334 r_286_333 rfl ?_
    refine xs_call (lv2 := [(0, _)]) r_286_334 rfl rfl (by decide) (xcan_0 rfl rfl M2.1 (by rfl)) rfl ?_
    refine xs_f 1 r_149_0 rfl ?_
    refine xs_get 4 r_149_1 rfl rfl M2.1 (by rfl) ?_
    refine xs_ret r_149_4 rfl ?_
    refine xK_v rfl ?_
    refine xs_f 339 r_286_337 rfl ?_
    refine xs_if 344 342 r_286_339 rfl (fun hth => ?_) (fun hth => ?_)
    · refine xs_f 346 r_286_344 rfl ?_
      refine xs_f 361 r_286_346 rfl ?_
      refine xs_f 2897 r_286_361 rfl ?_
      obtain ⟨p9, c9, n9, t9⟩ := T9
      exact xP_lv [(0, .ref 12), (1, .ref 32), (2, .ref 809), (3, .ref 818), (4, .ref 819), (5, .int (nI i))] rfl ⟨rfl, rfl, rfl, rfl, rfl, rfl, trivial⟩ (k _ (hP.p (h2 := (f2, _)) (X9.fr (fun x hx => y2 x (by omega))) (S9.fr (fun x z1 z2 => y2 x (by omega))) ⟨p9, c9, n9, t9.fr (fun x z1 z2 => y2 x (by omega))⟩ ⟨_, _, _, _, _, _, M2⟩ ⟨_, O9.fr (y2 _ (by omega))⟩ (fun x hx => (y2 x (by omega)).trans (e9 x (by omega) (by omega))) B9 (by omega) (by omega) (by omega)))
    · exact absurd (by first | exact congrArg nI zM | rfl) hth
  · have zM := (cAsk_c no6).2 z9
    have X8 := hX
    have S8 := hS
    have T8 : ∃ p cc nu, TxP h.1 804 tn p cc Bu nu := ⟨_, _, _, hT⟩
    have e8 : ∀ x, (((794 ≤ x ∧ x < 804) ∨ 807 ≤ x)) → h.1 x = h.1 x := fun _ _ => rfl
    have X9 := X8
    have S9 := S8
    have T9 := T8
    have O9 : LA (xbump (h.1, h.2)).1 818 1 w0 := hO.fr (e8 818 (by omega))
    have e9 : ∀ x, (((794 ≤ x ∧ x < 804) ∨ 807 ≤ x)) → x ≠ 818 → (xbump (h.1, h.2)).1 x = h.1 x := fun x h1 h2 => e8 x h1
    have M9 := hM.fr (fun x z1 z2 => e9 x (by omega) (by omega))
    have B9 : (xbump (h.1, h.2)).2 = h.2 ∨ (xbump (h.1, h.2)).2 = (xbump h).2 := Or.inr rfl
    refine xK_c (lv2 := [(0, _), (1, _), (2, _)]) rfl rfl rfl rfl ?_
    refine xs_f 17 r_244_16 rfl ?_
    refine xs_ret r_244_17 rfl ?_
    refine xK_v rfl ?_
    refine xs_f 321 (lv2 := [(6, _), (0, _), (1, _), (2, _), (3, _), (4, _), (5, _)]) r_286_319 rfl ?_
    refine xs_f 322 r_286_321 rfl ?_
    refine xs_f 323 r_286_322 rfl ?_
    refine xs_f 325 r_286_323 rfl ?_
    refine xs_f 326 r_286_325 rfl ?_
    refine xs_f 327 r_286_326 rfl ?_
    refine xs_ald 328 0 r_286_327 (fun _ _ => rfl) rfl rfl rfl (j := (i + 1)) (nI_addE rfl (nI_k 1)) (xarr_r rfl rfl) rfl (by show _ < S.1; omega) (by show S.1 ≤ 65536; omega) rfl ?_
    refine xs_call (lv2 := [(0, _), (1, _)]) r_286_328 rfl rfl (by decide) (xcan_0 rfl rfl M9.1 (by rfl)) rfl (m_164 M9 hG (by omega) h8 (fun hc f2 M2 y2 => ?_) (fun hc => absurd hc (by rw [zM]; decide)))
    refine xK_v rfl ?_
    refine xs_f 333 (lv2 := [(7, _), (6, _), (0, _), (1, _), (2, _), (3, _), (4, _), (5, _)]) r_286_331 rfl ?_
    refine xs_f 334 r_286_333 rfl ?_
    refine xs_call (lv2 := [(0, _)]) r_286_334 rfl rfl (by decide) (xcan_0 rfl rfl M2.1 (by rfl)) rfl ?_
    refine xs_f 1 r_149_0 rfl ?_
    refine xs_get 4 r_149_1 rfl rfl M2.1 (by rfl) ?_
    refine xs_ret r_149_4 rfl ?_
    refine xK_v rfl ?_
    refine xs_f 339 r_286_337 rfl ?_
    refine xs_if 344 342 r_286_339 rfl (fun hth => ?_) (fun hth => ?_)
    · refine xs_f 346 r_286_344 rfl ?_
      refine xs_f 361 r_286_346 rfl ?_
      refine xs_f 2897 r_286_361 rfl ?_
      obtain ⟨p9, c9, n9, t9⟩ := T9
      exact xP_lv [(0, .ref 12), (1, .ref 32), (2, .ref 809), (3, .ref 818), (4, .ref 819), (5, .int (nI i))] rfl ⟨rfl, rfl, rfl, rfl, rfl, rfl, trivial⟩ (k _ (hP.p (h2 := (f2, _)) (X9.fr (fun x hx => y2 x (by omega))) (S9.fr (fun x z1 z2 => y2 x (by omega))) ⟨p9, c9, n9, t9.fr (fun x z1 z2 => y2 x (by omega))⟩ ⟨_, _, _, _, _, _, M2⟩ ⟨_, O9.fr (y2 _ (by omega))⟩ (fun x hx => (y2 x (by omega)).trans (e9 x (by omega) (by omega))) B9 (by omega) (by omega) (by omega)))
    · exact absurd (by first | exact congrArg nI zM | rfl) hth
  · have zM := (cAsk_0 no6).mpr z9
    have q9 : nn = G 2 := r2.symm
    have T8 : ∃ p cc nu, TxP f8 804 tn p cc Bu nu := ⟨_, _, _, hT.fr (fun x z1 z2 => y8 x (by omega))⟩
    have e8 : ∀ x, (((794 ≤ x ∧ x < 804) ∨ 807 ≤ x)) → f8 x = h.1 x := fun x h1 => y8 x (by omega)
    refine xK_v rfl ?_
    refine xs_f 8 r_244_7 rfl ?_
    refine xs_astL 9 r_244_8 (fun _ _ => rfl) rfl rfl rfl (j := 0) (nI_k 0) (hO.fr (e8 818 (by omega))) (by omega) (fun f1 O9 y1 => ?_)
    have X9 := X8.fr (g := f1) (fun x hx => y1 x (by omega))
    have S9 := S8.fr (g := f1) (fun x z1 z2 => y1 x (by omega))
    obtain ⟨p8, c8, n8, t8⟩ := T8
    have T9 : ∃ p cc nu, TxP f1 804 _ p cc _ nu := ⟨p8, c8, n8, t8.fr (fun x z1 z2 => y1 x (by omega))⟩
    have e9 : ∀ x, (((794 ≤ x ∧ x < 804) ∨ 807 ≤ x)) → x ≠ 818 → f1 x = h.1 x := fun x h1 h2 => (y1 x (by omega)).trans (e8 x h1)
    have M9 := hM.fr (fun x z1 z2 => e9 x (by omega) (by omega))
    have B9 : h.2 = h.2 ∨ h.2 = (xbump h).2 := Or.inl rfl
    refine xs_f 18 r_244_9 rfl ?_
    refine xs_f 19 r_244_18 rfl ?_
    refine xs_ret r_244_19 rfl ?_
    refine xK_v rfl ?_
    refine xs_f 321 (lv2 := [(6, _), (0, _), (1, _), (2, _), (3, _), (4, _), (5, _)]) r_286_319 rfl ?_
    refine xs_f 322 r_286_321 rfl ?_
    refine xs_f 323 r_286_322 rfl ?_
    refine xs_f 325 r_286_323 rfl ?_
    refine xs_f 326 r_286_325 rfl ?_
    refine xs_f 327 r_286_326 rfl ?_
    refine xs_ald 328 0 r_286_327 (fun _ _ => rfl) rfl rfl rfl (j := (i + 1)) (nI_addE rfl (nI_k 1)) (xarr_r rfl rfl) rfl (by show _ < S.1; omega) (by show S.1 ≤ 65536; omega) rfl ?_
    refine xs_call (lv2 := [(0, _), (1, _)]) r_286_328 rfl rfl (by decide) (xcan_0 rfl rfl M9.1 (by rfl)) rfl (m_164 M9 hG (by omega) h8 (fun hc => absurd zM hc) (fun hc f2 M2 y2 => ?_))
    refine xK_v rfl ?_
    refine xs_f 333 (lv2 := [(7, _), (6, _), (0, _), (1, _), (2, _), (3, _), (4, _), (5, _)]) r_286_331 rfl ?_
    refine xs_f 334 r_286_333 rfl ?_
    refine xs_call (lv2 := [(0, _)]) r_286_334 rfl rfl (by decide) (xcan_0 rfl rfl M2.1 (by rfl)) rfl ?_
    refine xs_f 1 r_149_0 rfl ?_
    refine xs_get 4 r_149_1 rfl rfl M2.1 (by rfl) ?_
    refine xs_ret r_149_4 rfl ?_
    refine xK_v rfl ?_
    refine xs_f 339 r_286_337 rfl ?_
    refine xs_f 344 r_286_339 rfl ?_
    refine xs_f 346 r_286_344 rfl ?_
    refine xs_f 349 r_286_346 rfl ?_
    refine xs_f 350 r_286_349 rfl ?_
    refine xs_f 351 r_286_350 rfl ?_
    refine xs_aldL 352 r_286_351 (fun _ _ => rfl) rfl rfl rfl (j := 0) (nI_k 0) (O9.fr (y2 _ (by omega))) (by omega) ?_
    rw [xw_s]
    refine xs_f 354 r_286_352 rfl ?_
    refine xs_f 355 r_286_354 rfl ?_
    refine xs_f 356 r_286_355 rfl ?_
    refine xs_if 361 359 r_286_356 rfl (fun hl => ?_) (fun hl => ?_)
    · refine xs_f 2897 r_286_361 rfl ?_
      obtain ⟨p9, c9, n9, t9⟩ := T9
      exact xP_lv [(0, .ref 12), (1, .ref 32), (2, .ref 809), (3, .ref 818), (4, .ref 819), (5, .int (nI i))] rfl ⟨rfl, rfl, rfl, rfl, rfl, rfl, trivial⟩ (k _ (hP.p (h2 := (f2, _)) (X9.fr (fun x hx => y2 x (by omega))) (S9.fr (fun x z1 z2 => y2 x (by omega))) ⟨p9, c9, n9, t9.fr (fun x z1 z2 => y2 x (by omega))⟩ ⟨_, _, _, _, _, _, M2⟩ ⟨_, O9.fr (y2 _ (by omega))⟩ (fun x hx => (y2 x (by omega)).trans (e9 x (by omega) (by omega))) B9 (by omega) (by omega) (by omega)))
    · exact absurd (by rw [q9]; exact lg_cmp_r _) hl

theorem lw_2 {S : XSc} {d : Nat} {h : XH} {Q : XO → XH → Prop} {i c : Nat} (hi : i + 7 ≤ S.1) (hL : S.1 ≤ 3584) (hc : c ≤ 511) (hI : LwI h c) (k : ∀ h2, LwI h2 (c + 1) → xP S (d + 14) 286 2897 [(0, .ref 12), (1, .ref 32), (2, .ref 809), (3, .ref 818), (4, .ref 819), (5, .int (nI i))] [] h2 Q) : xP S (d + 14) 286 364 [(0, .ref 12), (1, .ref 32), (2, .ref 809), (3, .ref 818), (4, .ref 819), (5, .int (nI i))] [] h Q := by
  obtain ⟨H, Sv, pos, ch, sv, K, ea, fa, G, tn, Bu, on, Le, hP⟩ := hI
  obtain ⟨hX, hS, ⟨W, lo, hi2, hC⟩, ⟨p0, cc0, nu0, hT⟩, hZ, ⟨B, Mo, Pa, th, sp, wr, hM⟩, ⟨w0, hO⟩, hD, ⟨hK, h8, ht, hon⟩, hcn⟩ := id hP
  obtain ⟨o0, hHi, hSv, G8, hG8⟩ := id hX
  obtain ⟨mn, np, no, nn, N, sc, ho, TS, TH, tr, pl, q, s, R, hB, hr, hk, hN, hs⟩ := id hS
  obtain ⟨hG, ⟨r2, r3, r4⟩, r5, r6, r7, r8⟩ := id hr
  obtain ⟨m0, g0, b0, H0, S0, U0, L0, M0, A0⟩ := id hM
  have np5 := hG.1.2
  have no6 := hG.2.1.2
  have mm5 : ∀ i, i < no → (gQ G mn i).2.2.1 ≤ 5 := fun i hi => (hG.2.2 i (by omega)).2
  have hrm : ∀ i j, i < np → j < no → rnk (gE G j) (mn j) (nI i) = mn j → mn j < 5 := fun i j hi hj hh => ((hk.2.1 j hj).cg (r7 j hj).symm).room np5 hi hh
  refine xs_f 365 r_286_364 rfl ?_
  refine xs_f 366 r_286_365 rfl ?_
  refine xs_f 368 r_286_366 rfl ?_
  refine xs_f 369 r_286_368 rfl ?_
  refine xs_f 370 r_286_369 rfl ?_
  refine xs_ald 371 0 r_286_370 (fun _ _ => rfl) rfl rfl rfl (j := (i + 1)) (nI_addE rfl (nI_k 1)) (xarr_r rfl rfl) rfl (by show _ < S.1; omega) (by show S.1 ≤ 65536; omega) rfl ?_
  refine xs_f 372 r_286_371 rfl ?_
  refine xs_f 374 r_286_372 rfl ?_
  refine xs_f 375 r_286_374 rfl ?_
  refine xs_f 376 r_286_375 rfl ?_
  refine xs_ald 377 0 r_286_376 (fun _ _ => rfl) rfl rfl rfl (j := (i + 2)) (nI_addE rfl (nI_k 2)) (xarr_r rfl rfl) rfl (by show _ < S.1; omega) (by show S.1 ≤ 65536; omega) rfl ?_
  refine xs_f 378 r_286_377 rfl ?_
  refine xs_f 380 r_286_378 rfl ?_
  refine xs_f 381 r_286_380 rfl ?_
  refine xs_f 382 r_286_381 rfl ?_
  refine xs_ald 383 0 r_286_382 (fun _ _ => rfl) rfl rfl rfl (j := (i + 3)) (nI_addE rfl (nI_k 3)) (xarr_r rfl rfl) rfl (by show _ < S.1; omega) (by show S.1 ≤ 65536; omega) rfl ?_
  refine xs_f 384 r_286_383 rfl ?_
  refine xs_f 386 r_286_384 rfl ?_
  refine xs_f 387 r_286_386 rfl ?_
  refine xs_f 388 r_286_387 rfl ?_
  refine xs_ald 389 0 r_286_388 (fun _ _ => rfl) rfl rfl rfl (j := (i + 4)) (nI_addE rfl (nI_k 4)) (xarr_r rfl rfl) rfl (by show _ < S.1; omega) (by show S.1 ≤ 65536; omega) rfl ?_
  refine xs_f 390 r_286_389 rfl ?_
  refine xs_f 392 r_286_390 rfl ?_
  refine xs_f 393 r_286_392 rfl ?_
  refine xs_f 394 r_286_393 rfl ?_
  refine xs_ald 395 0 r_286_394 (fun _ _ => rfl) rfl rfl rfl (j := (i + 5)) (nI_addE rfl (nI_k 5)) (xarr_r rfl rfl) rfl (by show _ < S.1; omega) (by show S.1 ≤ 65536; omega) rfl ?_
  refine xs_f 396 r_286_395 rfl ?_
  refine xs_f 398 r_286_396 rfl ?_
  refine xs_f 400 r_286_398 rfl ?_
  refine xs_f 401 r_286_400 rfl ?_
  refine xs_ald 402 0 r_286_401 (fun _ _ => rfl) rfl rfl rfl (j := (i + 6)) (nI_addE rfl (nI_k 6)) (xarr_r rfl rfl) rfl (by show _ < S.1; omega) (by show S.1 ≤ 65536; omega) rfl ?_
  refine xs_f 403 r_286_402 rfl ?_
  refine xs_call (lv2 := [(0, _), (1, _), (2, _), (3, _), (4, _), (5, _), (6, _), (7, _)]) r_286_403 rfl rfl (by decide) (xcan_3 rfl rfl) rfl ?_
  refine xs_f 2 r_245_0 rfl ?_
  refine xs_f 3 r_245_2 rfl ?_
  refine xs_f 4 r_245_3 rfl ?_
  refine xs_f 5 r_245_4 rfl ?_
  refine xs_f 6 r_245_5 rfl ?_
  refine xs_f 7 r_245_6 rfl ?_
  refine xs_f 9 r_245_7 rfl ?_
  refine xs_f 11 r_245_9 rfl ?_
  refine xs_f 13 r_245_11 rfl ?_
  refine xs_call (lv2 := [(0, _), (1, _), (2, _), (3, _), (4, _), (5, _), (6, _)]) r_245_13 rfl rfl (by decide) (xcan_0 rfl rfl (by first | assumption | exact xup_s | exact o0 | exact M9.1 | (refine (xup_n (by omega)).trans ?_; first | assumption | exact xup_s | exact o0 | exact M9.1) | (refine (xup_n (by omega)).trans ((xup_n (by omega)).trans ?_); first | assumption | exact xup_s | exact o0 | exact M9.1) | (refine (xup_n (by omega)).trans ((xup_n (by omega)).trans ((xup_n (by omega)).trans ?_)); first | assumption | exact xup_s | exact o0 | exact M9.1)) (by rfl)) rfl (e_86 hX hB hr hk hN hs (by omega) (fl5 (betF_l5 np no pl q (S.2 (i + 1)) (S.2 (i + 2)) (S.2 (i + 3)) (S.2 (i + 4)) (S.2 (i + 5)) (S.2 (i + 6))) (fun z9 => ?_) (fun z9 => ?_) (fun z9 => ?_) (fun z9 => ?_) (fun z9 => ?_)) (fun z9 i1 hi1 hp1 f8 pos8 X8 S8 y8 => ?_))
  · have zE := betF_cong (by omega) r6 r7 (S.2 (i + 1)) (S.2 (i + 2)) (S.2 (i + 3)) (S.2 (i + 4)) (S.2 (i + 5)) (S.2 (i + 6))
    have zM := zE.symm.trans z9
    have X8 := hX
    have S8 := hS
    have T8 : ∃ p cc nu, TxP h.1 804 tn p cc Bu nu := ⟨_, _, _, hT⟩
    have e8 : ∀ x, (((794 ≤ x ∧ x < 804) ∨ 807 ≤ x)) → h.1 x = h.1 x := fun _ _ => rfl
    have X9 := X8
    have S9 := S8
    have T9 := T8
    have O9 : LA (xbump (h.1, h.2)).1 818 1 w0 := hO.fr (e8 818 (by omega))
    have e9 : ∀ x, (((794 ≤ x ∧ x < 804) ∨ 807 ≤ x)) → x ≠ 818 → (xbump (h.1, h.2)).1 x = h.1 x := fun x h1 h2 => e8 x h1
    have M9 := hM.fr (fun x z1 z2 => e9 x (by omega) (by omega))
    have B9 : (xbump (h.1, h.2)).2 = h.2 ∨ (xbump (h.1, h.2)).2 = (xbump h).2 := Or.inr rfl
    refine xK_c (lv2 := [(0, _), (1, _), (2, _), (3, _), (4, _), (5, _), (6, _), (7, _)]) rfl rfl rfl rfl ?_
    refine xs_f 24 r_245_23 rfl ?_
    refine xs_ret r_245_24 rfl ?_
    refine xK_v rfl ?_
    refine xs_f 408 (lv2 := [(6, _), (0, _), (1, _), (2, _), (3, _), (4, _), (5, _)]) r_286_406 rfl ?_
    refine xs_f 409 r_286_408 rfl ?_
    refine xs_f 410 r_286_409 rfl ?_
    refine xs_f 412 r_286_410 rfl ?_
    refine xs_f 413 r_286_412 rfl ?_
    refine xs_f 414 r_286_413 rfl ?_
    refine xs_ald 415 0 r_286_414 (fun _ _ => rfl) rfl rfl rfl (j := (i + 1)) (nI_addE rfl (nI_k 1)) (xarr_r rfl rfl) rfl (by show _ < S.1; omega) (by show S.1 ≤ 65536; omega) rfl ?_
    refine xs_f 416 r_286_415 rfl ?_
    refine xs_f 418 r_286_416 rfl ?_
    refine xs_f 419 r_286_418 rfl ?_
    refine xs_f 420 r_286_419 rfl ?_
    refine xs_ald 421 0 r_286_420 (fun _ _ => rfl) rfl rfl rfl (j := (i + 2)) (nI_addE rfl (nI_k 2)) (xarr_r rfl rfl) rfl (by show _ < S.1; omega) (by show S.1 ≤ 65536; omega) rfl ?_
    refine xs_f 422 r_286_421 rfl ?_
    refine xs_f 424 r_286_422 rfl ?_
    refine xs_f 425 r_286_424 rfl ?_
    refine xs_f 426 r_286_425 rfl ?_
    refine xs_ald 427 0 r_286_426 (fun _ _ => rfl) rfl rfl rfl (j := (i + 3)) (nI_addE rfl (nI_k 3)) (xarr_r rfl rfl) rfl (by show _ < S.1; omega) (by show S.1 ≤ 65536; omega) rfl ?_
    refine xs_f 428 r_286_427 rfl ?_
    refine xs_f 430 r_286_428 rfl ?_
    refine xs_f 431 r_286_430 rfl ?_
    refine xs_f 432 r_286_431 rfl ?_
    refine xs_ald 433 0 r_286_432 (fun _ _ => rfl) rfl rfl rfl (j := (i + 4)) (nI_addE rfl (nI_k 4)) (xarr_r rfl rfl) rfl (by show _ < S.1; omega) (by show S.1 ≤ 65536; omega) rfl ?_
    refine xs_f 434 r_286_433 rfl ?_
    refine xs_f 436 r_286_434 rfl ?_
    refine xs_f 437 r_286_436 rfl ?_
    refine xs_f 438 r_286_437 rfl ?_
    refine xs_ald 439 0 r_286_438 (fun _ _ => rfl) rfl rfl rfl (j := (i + 5)) (nI_addE rfl (nI_k 5)) (xarr_r rfl rfl) rfl (by show _ < S.1; omega) (by show S.1 ≤ 65536; omega) rfl ?_
    refine xs_f 440 r_286_439 rfl ?_
    refine xs_f 442 r_286_440 rfl ?_
    refine xs_f 444 r_286_442 rfl ?_
    refine xs_f 445 r_286_444 rfl ?_
    refine xs_ald 446 0 r_286_445 (fun _ _ => rfl) rfl rfl rfl (j := (i + 6)) (nI_addE rfl (nI_k 6)) (xarr_r rfl rfl) rfl (by show _ < S.1; omega) (by show S.1 ≤ 65536; omega) rfl ?_
    refine xs_call (lv2 := [(0, _), (1, _), (2, _), (3, _), (4, _), (5, _), (6, _)]) r_286_446 rfl rfl (by decide) (xcan_0 rfl rfl M9.1 (by rfl)) rfl (m_167 M9 hG (by omega) h8 hrm (fun hc f2 M2 y2 => ?_) (fun hc => absurd hc (by rw [zM]; decide)))
    refine xK_v rfl ?_
    refine xs_f 451 (lv2 := [(7, _), (6, _), (0, _), (1, _), (2, _), (3, _), (4, _), (5, _)]) r_286_449 rfl ?_
    refine xs_f 452 r_286_451 rfl ?_
    refine xs_call (lv2 := [(0, _)]) r_286_452 rfl rfl (by decide) (xcan_0 rfl rfl M2.1 (by rfl)) rfl ?_
    refine xs_f 1 r_149_0 rfl ?_
    refine xs_get 4 r_149_1 rfl rfl M2.1 (by rfl) ?_
    refine xs_ret r_149_4 rfl ?_
    refine xK_v rfl ?_
    refine xs_f 457 r_286_455 rfl ?_
    refine xs_if 462 460 r_286_457 rfl (fun hth => ?_) (fun hth => ?_)
    · refine xs_f 464 r_286_462 rfl ?_
      refine xs_f 479 r_286_464 rfl ?_
      refine xs_f 2897 r_286_479 rfl ?_
      obtain ⟨p9, c9, n9, t9⟩ := T9
      exact xP_lv [(0, .ref 12), (1, .ref 32), (2, .ref 809), (3, .ref 818), (4, .ref 819), (5, .int (nI i))] rfl ⟨rfl, rfl, rfl, rfl, rfl, rfl, trivial⟩ (k _ (hP.p (h2 := (f2, _)) (X9.fr (fun x hx => y2 x (by omega))) (S9.fr (fun x z1 z2 => y2 x (by omega))) ⟨p9, c9, n9, t9.fr (fun x z1 z2 => y2 x (by omega))⟩ ⟨_, _, _, _, _, _, M2⟩ ⟨_, O9.fr (y2 _ (by omega))⟩ (fun x hx => (y2 x (by omega)).trans (e9 x (by omega) (by omega))) B9 (by omega) (by omega) (by omega)))
    · exact absurd (by first | exact congrArg nI zM | rfl) hth
  · have zE := betF_cong (by omega) r6 r7 (S.2 (i + 1)) (S.2 (i + 2)) (S.2 (i + 3)) (S.2 (i + 4)) (S.2 (i + 5)) (S.2 (i + 6))
    have zM := zE.symm.trans z9
    have X8 := hX
    have S8 := hS
    have T8 : ∃ p cc nu, TxP h.1 804 tn p cc Bu nu := ⟨_, _, _, hT⟩
    have e8 : ∀ x, (((794 ≤ x ∧ x < 804) ∨ 807 ≤ x)) → h.1 x = h.1 x := fun _ _ => rfl
    have X9 := X8
    have S9 := S8
    have T9 := T8
    have O9 : LA (xbump (h.1, h.2)).1 818 1 w0 := hO.fr (e8 818 (by omega))
    have e9 : ∀ x, (((794 ≤ x ∧ x < 804) ∨ 807 ≤ x)) → x ≠ 818 → (xbump (h.1, h.2)).1 x = h.1 x := fun x h1 h2 => e8 x h1
    have M9 := hM.fr (fun x z1 z2 => e9 x (by omega) (by omega))
    have B9 : (xbump (h.1, h.2)).2 = h.2 ∨ (xbump (h.1, h.2)).2 = (xbump h).2 := Or.inr rfl
    refine xK_c (lv2 := [(0, _), (1, _), (2, _), (3, _), (4, _), (5, _), (6, _), (7, _)]) rfl rfl rfl rfl ?_
    refine xs_f 28 r_245_27 rfl ?_
    refine xs_ret r_245_28 rfl ?_
    refine xK_v rfl ?_
    refine xs_f 408 (lv2 := [(6, _), (0, _), (1, _), (2, _), (3, _), (4, _), (5, _)]) r_286_406 rfl ?_
    refine xs_f 409 r_286_408 rfl ?_
    refine xs_f 410 r_286_409 rfl ?_
    refine xs_f 412 r_286_410 rfl ?_
    refine xs_f 413 r_286_412 rfl ?_
    refine xs_f 414 r_286_413 rfl ?_
    refine xs_ald 415 0 r_286_414 (fun _ _ => rfl) rfl rfl rfl (j := (i + 1)) (nI_addE rfl (nI_k 1)) (xarr_r rfl rfl) rfl (by show _ < S.1; omega) (by show S.1 ≤ 65536; omega) rfl ?_
    refine xs_f 416 r_286_415 rfl ?_
    refine xs_f 418 r_286_416 rfl ?_
    refine xs_f 419 r_286_418 rfl ?_
    refine xs_f 420 r_286_419 rfl ?_
    refine xs_ald 421 0 r_286_420 (fun _ _ => rfl) rfl rfl rfl (j := (i + 2)) (nI_addE rfl (nI_k 2)) (xarr_r rfl rfl) rfl (by show _ < S.1; omega) (by show S.1 ≤ 65536; omega) rfl ?_
    refine xs_f 422 r_286_421 rfl ?_
    refine xs_f 424 r_286_422 rfl ?_
    refine xs_f 425 r_286_424 rfl ?_
    refine xs_f 426 r_286_425 rfl ?_
    refine xs_ald 427 0 r_286_426 (fun _ _ => rfl) rfl rfl rfl (j := (i + 3)) (nI_addE rfl (nI_k 3)) (xarr_r rfl rfl) rfl (by show _ < S.1; omega) (by show S.1 ≤ 65536; omega) rfl ?_
    refine xs_f 428 r_286_427 rfl ?_
    refine xs_f 430 r_286_428 rfl ?_
    refine xs_f 431 r_286_430 rfl ?_
    refine xs_f 432 r_286_431 rfl ?_
    refine xs_ald 433 0 r_286_432 (fun _ _ => rfl) rfl rfl rfl (j := (i + 4)) (nI_addE rfl (nI_k 4)) (xarr_r rfl rfl) rfl (by show _ < S.1; omega) (by show S.1 ≤ 65536; omega) rfl ?_
    refine xs_f 434 r_286_433 rfl ?_
    refine xs_f 436 r_286_434 rfl ?_
    refine xs_f 437 r_286_436 rfl ?_
    refine xs_f 438 r_286_437 rfl ?_
    refine xs_ald 439 0 r_286_438 (fun _ _ => rfl) rfl rfl rfl (j := (i + 5)) (nI_addE rfl (nI_k 5)) (xarr_r rfl rfl) rfl (by show _ < S.1; omega) (by show S.1 ≤ 65536; omega) rfl ?_
    refine xs_f 440 r_286_439 rfl ?_
    refine xs_f 442 r_286_440 rfl ?_
    refine xs_f 444 r_286_442 rfl ?_
    refine xs_f 445 r_286_444 rfl ?_
    refine xs_ald 446 0 r_286_445 (fun _ _ => rfl) rfl rfl rfl (j := (i + 6)) (nI_addE rfl (nI_k 6)) (xarr_r rfl rfl) rfl (by show _ < S.1; omega) (by show S.1 ≤ 65536; omega) rfl ?_
    refine xs_call (lv2 := [(0, _), (1, _), (2, _), (3, _), (4, _), (5, _), (6, _)]) r_286_446 rfl rfl (by decide) (xcan_0 rfl rfl M9.1 (by rfl)) rfl (m_167 M9 hG (by omega) h8 hrm (fun hc f2 M2 y2 => ?_) (fun hc => absurd hc (by rw [zM]; decide)))
    refine xK_v rfl ?_
    refine xs_f 451 (lv2 := [(7, _), (6, _), (0, _), (1, _), (2, _), (3, _), (4, _), (5, _)]) r_286_449 rfl ?_
    refine xs_f 452 r_286_451 rfl ?_
    refine xs_call (lv2 := [(0, _)]) r_286_452 rfl rfl (by decide) (xcan_0 rfl rfl M2.1 (by rfl)) rfl ?_
    refine xs_f 1 r_149_0 rfl ?_
    refine xs_get 4 r_149_1 rfl rfl M2.1 (by rfl) ?_
    refine xs_ret r_149_4 rfl ?_
    refine xK_v rfl ?_
    refine xs_f 457 r_286_455 rfl ?_
    refine xs_if 462 460 r_286_457 rfl (fun hth => ?_) (fun hth => ?_)
    · refine xs_f 464 r_286_462 rfl ?_
      refine xs_f 479 r_286_464 rfl ?_
      refine xs_f 2897 r_286_479 rfl ?_
      obtain ⟨p9, c9, n9, t9⟩ := T9
      exact xP_lv [(0, .ref 12), (1, .ref 32), (2, .ref 809), (3, .ref 818), (4, .ref 819), (5, .int (nI i))] rfl ⟨rfl, rfl, rfl, rfl, rfl, rfl, trivial⟩ (k _ (hP.p (h2 := (f2, _)) (X9.fr (fun x hx => y2 x (by omega))) (S9.fr (fun x z1 z2 => y2 x (by omega))) ⟨p9, c9, n9, t9.fr (fun x z1 z2 => y2 x (by omega))⟩ ⟨_, _, _, _, _, _, M2⟩ ⟨_, O9.fr (y2 _ (by omega))⟩ (fun x hx => (y2 x (by omega)).trans (e9 x (by omega) (by omega))) B9 (by omega) (by omega) (by omega)))
    · exact absurd (by first | exact congrArg nI zM | rfl) hth
  · have zE := betF_cong (by omega) r6 r7 (S.2 (i + 1)) (S.2 (i + 2)) (S.2 (i + 3)) (S.2 (i + 4)) (S.2 (i + 5)) (S.2 (i + 6))
    have zM := zE.symm.trans z9
    have X8 := hX
    have S8 := hS
    have T8 : ∃ p cc nu, TxP h.1 804 tn p cc Bu nu := ⟨_, _, _, hT⟩
    have e8 : ∀ x, (((794 ≤ x ∧ x < 804) ∨ 807 ≤ x)) → h.1 x = h.1 x := fun _ _ => rfl
    have X9 := X8
    have S9 := S8
    have T9 := T8
    have O9 : LA (xbump (h.1, h.2)).1 818 1 w0 := hO.fr (e8 818 (by omega))
    have e9 : ∀ x, (((794 ≤ x ∧ x < 804) ∨ 807 ≤ x)) → x ≠ 818 → (xbump (h.1, h.2)).1 x = h.1 x := fun x h1 h2 => e8 x h1
    have M9 := hM.fr (fun x z1 z2 => e9 x (by omega) (by omega))
    have B9 : (xbump (h.1, h.2)).2 = h.2 ∨ (xbump (h.1, h.2)).2 = (xbump h).2 := Or.inr rfl
    refine xK_c (lv2 := [(0, _), (1, _), (2, _), (3, _), (4, _), (5, _), (6, _), (7, _)]) rfl rfl rfl rfl ?_
    refine xs_f 32 r_245_31 rfl ?_
    refine xs_ret r_245_32 rfl ?_
    refine xK_v rfl ?_
    refine xs_f 408 (lv2 := [(6, _), (0, _), (1, _), (2, _), (3, _), (4, _), (5, _)]) r_286_406 rfl ?_
    refine xs_f 409 r_286_408 rfl ?_
    refine xs_f 410 r_286_409 rfl ?_
    refine xs_f 412 r_286_410 rfl ?_
    refine xs_f 413 r_286_412 rfl ?_
    refine xs_f 414 r_286_413 rfl ?_
    refine xs_ald 415 0 r_286_414 (fun _ _ => rfl) rfl rfl rfl (j := (i + 1)) (nI_addE rfl (nI_k 1)) (xarr_r rfl rfl) rfl (by show _ < S.1; omega) (by show S.1 ≤ 65536; omega) rfl ?_
    refine xs_f 416 r_286_415 rfl ?_
    refine xs_f 418 r_286_416 rfl ?_
    refine xs_f 419 r_286_418 rfl ?_
    refine xs_f 420 r_286_419 rfl ?_
    refine xs_ald 421 0 r_286_420 (fun _ _ => rfl) rfl rfl rfl (j := (i + 2)) (nI_addE rfl (nI_k 2)) (xarr_r rfl rfl) rfl (by show _ < S.1; omega) (by show S.1 ≤ 65536; omega) rfl ?_
    refine xs_f 422 r_286_421 rfl ?_
    refine xs_f 424 r_286_422 rfl ?_
    refine xs_f 425 r_286_424 rfl ?_
    refine xs_f 426 r_286_425 rfl ?_
    refine xs_ald 427 0 r_286_426 (fun _ _ => rfl) rfl rfl rfl (j := (i + 3)) (nI_addE rfl (nI_k 3)) (xarr_r rfl rfl) rfl (by show _ < S.1; omega) (by show S.1 ≤ 65536; omega) rfl ?_
    refine xs_f 428 r_286_427 rfl ?_
    refine xs_f 430 r_286_428 rfl ?_
    refine xs_f 431 r_286_430 rfl ?_
    refine xs_f 432 r_286_431 rfl ?_
    refine xs_ald 433 0 r_286_432 (fun _ _ => rfl) rfl rfl rfl (j := (i + 4)) (nI_addE rfl (nI_k 4)) (xarr_r rfl rfl) rfl (by show _ < S.1; omega) (by show S.1 ≤ 65536; omega) rfl ?_
    refine xs_f 434 r_286_433 rfl ?_
    refine xs_f 436 r_286_434 rfl ?_
    refine xs_f 437 r_286_436 rfl ?_
    refine xs_f 438 r_286_437 rfl ?_
    refine xs_ald 439 0 r_286_438 (fun _ _ => rfl) rfl rfl rfl (j := (i + 5)) (nI_addE rfl (nI_k 5)) (xarr_r rfl rfl) rfl (by show _ < S.1; omega) (by show S.1 ≤ 65536; omega) rfl ?_
    refine xs_f 440 r_286_439 rfl ?_
    refine xs_f 442 r_286_440 rfl ?_
    refine xs_f 444 r_286_442 rfl ?_
    refine xs_f 445 r_286_444 rfl ?_
    refine xs_ald 446 0 r_286_445 (fun _ _ => rfl) rfl rfl rfl (j := (i + 6)) (nI_addE rfl (nI_k 6)) (xarr_r rfl rfl) rfl (by show _ < S.1; omega) (by show S.1 ≤ 65536; omega) rfl ?_
    refine xs_call (lv2 := [(0, _), (1, _), (2, _), (3, _), (4, _), (5, _), (6, _)]) r_286_446 rfl rfl (by decide) (xcan_0 rfl rfl M9.1 (by rfl)) rfl (m_167 M9 hG (by omega) h8 hrm (fun hc f2 M2 y2 => ?_) (fun hc => absurd hc (by rw [zM]; decide)))
    refine xK_v rfl ?_
    refine xs_f 451 (lv2 := [(7, _), (6, _), (0, _), (1, _), (2, _), (3, _), (4, _), (5, _)]) r_286_449 rfl ?_
    refine xs_f 452 r_286_451 rfl ?_
    refine xs_call (lv2 := [(0, _)]) r_286_452 rfl rfl (by decide) (xcan_0 rfl rfl M2.1 (by rfl)) rfl ?_
    refine xs_f 1 r_149_0 rfl ?_
    refine xs_get 4 r_149_1 rfl rfl M2.1 (by rfl) ?_
    refine xs_ret r_149_4 rfl ?_
    refine xK_v rfl ?_
    refine xs_f 457 r_286_455 rfl ?_
    refine xs_if 462 460 r_286_457 rfl (fun hth => ?_) (fun hth => ?_)
    · refine xs_f 464 r_286_462 rfl ?_
      refine xs_f 479 r_286_464 rfl ?_
      refine xs_f 2897 r_286_479 rfl ?_
      obtain ⟨p9, c9, n9, t9⟩ := T9
      exact xP_lv [(0, .ref 12), (1, .ref 32), (2, .ref 809), (3, .ref 818), (4, .ref 819), (5, .int (nI i))] rfl ⟨rfl, rfl, rfl, rfl, rfl, rfl, trivial⟩ (k _ (hP.p (h2 := (f2, _)) (X9.fr (fun x hx => y2 x (by omega))) (S9.fr (fun x z1 z2 => y2 x (by omega))) ⟨p9, c9, n9, t9.fr (fun x z1 z2 => y2 x (by omega))⟩ ⟨_, _, _, _, _, _, M2⟩ ⟨_, O9.fr (y2 _ (by omega))⟩ (fun x hx => (y2 x (by omega)).trans (e9 x (by omega) (by omega))) B9 (by omega) (by omega) (by omega)))
    · exact absurd (by first | exact congrArg nI zM | rfl) hth
  · have zE := betF_cong (by omega) r6 r7 (S.2 (i + 1)) (S.2 (i + 2)) (S.2 (i + 3)) (S.2 (i + 4)) (S.2 (i + 5)) (S.2 (i + 6))
    have zM := zE.symm.trans z9
    have X8 := hX
    have S8 := hS
    have T8 : ∃ p cc nu, TxP h.1 804 tn p cc Bu nu := ⟨_, _, _, hT⟩
    have e8 : ∀ x, (((794 ≤ x ∧ x < 804) ∨ 807 ≤ x)) → h.1 x = h.1 x := fun _ _ => rfl
    have X9 := X8
    have S9 := S8
    have T9 := T8
    have O9 : LA (xbump (h.1, h.2)).1 818 1 w0 := hO.fr (e8 818 (by omega))
    have e9 : ∀ x, (((794 ≤ x ∧ x < 804) ∨ 807 ≤ x)) → x ≠ 818 → (xbump (h.1, h.2)).1 x = h.1 x := fun x h1 h2 => e8 x h1
    have M9 := hM.fr (fun x z1 z2 => e9 x (by omega) (by omega))
    have B9 : (xbump (h.1, h.2)).2 = h.2 ∨ (xbump (h.1, h.2)).2 = (xbump h).2 := Or.inr rfl
    refine xK_c (lv2 := [(0, _), (1, _), (2, _), (3, _), (4, _), (5, _), (6, _), (7, _)]) rfl rfl rfl rfl ?_
    refine xs_f 36 r_245_35 rfl ?_
    refine xs_ret r_245_36 rfl ?_
    refine xK_v rfl ?_
    refine xs_f 408 (lv2 := [(6, _), (0, _), (1, _), (2, _), (3, _), (4, _), (5, _)]) r_286_406 rfl ?_
    refine xs_f 409 r_286_408 rfl ?_
    refine xs_f 410 r_286_409 rfl ?_
    refine xs_f 412 r_286_410 rfl ?_
    refine xs_f 413 r_286_412 rfl ?_
    refine xs_f 414 r_286_413 rfl ?_
    refine xs_ald 415 0 r_286_414 (fun _ _ => rfl) rfl rfl rfl (j := (i + 1)) (nI_addE rfl (nI_k 1)) (xarr_r rfl rfl) rfl (by show _ < S.1; omega) (by show S.1 ≤ 65536; omega) rfl ?_
    refine xs_f 416 r_286_415 rfl ?_
    refine xs_f 418 r_286_416 rfl ?_
    refine xs_f 419 r_286_418 rfl ?_
    refine xs_f 420 r_286_419 rfl ?_
    refine xs_ald 421 0 r_286_420 (fun _ _ => rfl) rfl rfl rfl (j := (i + 2)) (nI_addE rfl (nI_k 2)) (xarr_r rfl rfl) rfl (by show _ < S.1; omega) (by show S.1 ≤ 65536; omega) rfl ?_
    refine xs_f 422 r_286_421 rfl ?_
    refine xs_f 424 r_286_422 rfl ?_
    refine xs_f 425 r_286_424 rfl ?_
    refine xs_f 426 r_286_425 rfl ?_
    refine xs_ald 427 0 r_286_426 (fun _ _ => rfl) rfl rfl rfl (j := (i + 3)) (nI_addE rfl (nI_k 3)) (xarr_r rfl rfl) rfl (by show _ < S.1; omega) (by show S.1 ≤ 65536; omega) rfl ?_
    refine xs_f 428 r_286_427 rfl ?_
    refine xs_f 430 r_286_428 rfl ?_
    refine xs_f 431 r_286_430 rfl ?_
    refine xs_f 432 r_286_431 rfl ?_
    refine xs_ald 433 0 r_286_432 (fun _ _ => rfl) rfl rfl rfl (j := (i + 4)) (nI_addE rfl (nI_k 4)) (xarr_r rfl rfl) rfl (by show _ < S.1; omega) (by show S.1 ≤ 65536; omega) rfl ?_
    refine xs_f 434 r_286_433 rfl ?_
    refine xs_f 436 r_286_434 rfl ?_
    refine xs_f 437 r_286_436 rfl ?_
    refine xs_f 438 r_286_437 rfl ?_
    refine xs_ald 439 0 r_286_438 (fun _ _ => rfl) rfl rfl rfl (j := (i + 5)) (nI_addE rfl (nI_k 5)) (xarr_r rfl rfl) rfl (by show _ < S.1; omega) (by show S.1 ≤ 65536; omega) rfl ?_
    refine xs_f 440 r_286_439 rfl ?_
    refine xs_f 442 r_286_440 rfl ?_
    refine xs_f 444 r_286_442 rfl ?_
    refine xs_f 445 r_286_444 rfl ?_
    refine xs_ald 446 0 r_286_445 (fun _ _ => rfl) rfl rfl rfl (j := (i + 6)) (nI_addE rfl (nI_k 6)) (xarr_r rfl rfl) rfl (by show _ < S.1; omega) (by show S.1 ≤ 65536; omega) rfl ?_
    refine xs_call (lv2 := [(0, _), (1, _), (2, _), (3, _), (4, _), (5, _), (6, _)]) r_286_446 rfl rfl (by decide) (xcan_0 rfl rfl M9.1 (by rfl)) rfl (m_167 M9 hG (by omega) h8 hrm (fun hc f2 M2 y2 => ?_) (fun hc => absurd hc (by rw [zM]; decide)))
    refine xK_v rfl ?_
    refine xs_f 451 (lv2 := [(7, _), (6, _), (0, _), (1, _), (2, _), (3, _), (4, _), (5, _)]) r_286_449 rfl ?_
    refine xs_f 452 r_286_451 rfl ?_
    refine xs_call (lv2 := [(0, _)]) r_286_452 rfl rfl (by decide) (xcan_0 rfl rfl M2.1 (by rfl)) rfl ?_
    refine xs_f 1 r_149_0 rfl ?_
    refine xs_get 4 r_149_1 rfl rfl M2.1 (by rfl) ?_
    refine xs_ret r_149_4 rfl ?_
    refine xK_v rfl ?_
    refine xs_f 457 r_286_455 rfl ?_
    refine xs_if 462 460 r_286_457 rfl (fun hth => ?_) (fun hth => ?_)
    · refine xs_f 464 r_286_462 rfl ?_
      refine xs_f 479 r_286_464 rfl ?_
      refine xs_f 2897 r_286_479 rfl ?_
      obtain ⟨p9, c9, n9, t9⟩ := T9
      exact xP_lv [(0, .ref 12), (1, .ref 32), (2, .ref 809), (3, .ref 818), (4, .ref 819), (5, .int (nI i))] rfl ⟨rfl, rfl, rfl, rfl, rfl, rfl, trivial⟩ (k _ (hP.p (h2 := (f2, _)) (X9.fr (fun x hx => y2 x (by omega))) (S9.fr (fun x z1 z2 => y2 x (by omega))) ⟨p9, c9, n9, t9.fr (fun x z1 z2 => y2 x (by omega))⟩ ⟨_, _, _, _, _, _, M2⟩ ⟨_, O9.fr (y2 _ (by omega))⟩ (fun x hx => (y2 x (by omega)).trans (e9 x (by omega) (by omega))) B9 (by omega) (by omega) (by omega)))
    · exact absurd (by first | exact congrArg nI zM | rfl) hth
  · have zE := betF_cong (by omega) r6 r7 (S.2 (i + 1)) (S.2 (i + 2)) (S.2 (i + 3)) (S.2 (i + 4)) (S.2 (i + 5)) (S.2 (i + 6))
    have zM := zE.symm.trans z9
    have X8 := hX
    have S8 := hS
    have T8 : ∃ p cc nu, TxP h.1 804 tn p cc Bu nu := ⟨_, _, _, hT⟩
    have e8 : ∀ x, (((794 ≤ x ∧ x < 804) ∨ 807 ≤ x)) → h.1 x = h.1 x := fun _ _ => rfl
    have X9 := X8
    have S9 := S8
    have T9 := T8
    have O9 : LA (xbump (h.1, h.2)).1 818 1 w0 := hO.fr (e8 818 (by omega))
    have e9 : ∀ x, (((794 ≤ x ∧ x < 804) ∨ 807 ≤ x)) → x ≠ 818 → (xbump (h.1, h.2)).1 x = h.1 x := fun x h1 h2 => e8 x h1
    have M9 := hM.fr (fun x z1 z2 => e9 x (by omega) (by omega))
    have B9 : (xbump (h.1, h.2)).2 = h.2 ∨ (xbump (h.1, h.2)).2 = (xbump h).2 := Or.inr rfl
    refine xK_c (lv2 := [(0, _), (1, _), (2, _), (3, _), (4, _), (5, _), (6, _), (7, _)]) rfl rfl rfl rfl ?_
    refine xs_f 40 r_245_39 rfl ?_
    refine xs_ret r_245_40 rfl ?_
    refine xK_v rfl ?_
    refine xs_f 408 (lv2 := [(6, _), (0, _), (1, _), (2, _), (3, _), (4, _), (5, _)]) r_286_406 rfl ?_
    refine xs_f 409 r_286_408 rfl ?_
    refine xs_f 410 r_286_409 rfl ?_
    refine xs_f 412 r_286_410 rfl ?_
    refine xs_f 413 r_286_412 rfl ?_
    refine xs_f 414 r_286_413 rfl ?_
    refine xs_ald 415 0 r_286_414 (fun _ _ => rfl) rfl rfl rfl (j := (i + 1)) (nI_addE rfl (nI_k 1)) (xarr_r rfl rfl) rfl (by show _ < S.1; omega) (by show S.1 ≤ 65536; omega) rfl ?_
    refine xs_f 416 r_286_415 rfl ?_
    refine xs_f 418 r_286_416 rfl ?_
    refine xs_f 419 r_286_418 rfl ?_
    refine xs_f 420 r_286_419 rfl ?_
    refine xs_ald 421 0 r_286_420 (fun _ _ => rfl) rfl rfl rfl (j := (i + 2)) (nI_addE rfl (nI_k 2)) (xarr_r rfl rfl) rfl (by show _ < S.1; omega) (by show S.1 ≤ 65536; omega) rfl ?_
    refine xs_f 422 r_286_421 rfl ?_
    refine xs_f 424 r_286_422 rfl ?_
    refine xs_f 425 r_286_424 rfl ?_
    refine xs_f 426 r_286_425 rfl ?_
    refine xs_ald 427 0 r_286_426 (fun _ _ => rfl) rfl rfl rfl (j := (i + 3)) (nI_addE rfl (nI_k 3)) (xarr_r rfl rfl) rfl (by show _ < S.1; omega) (by show S.1 ≤ 65536; omega) rfl ?_
    refine xs_f 428 r_286_427 rfl ?_
    refine xs_f 430 r_286_428 rfl ?_
    refine xs_f 431 r_286_430 rfl ?_
    refine xs_f 432 r_286_431 rfl ?_
    refine xs_ald 433 0 r_286_432 (fun _ _ => rfl) rfl rfl rfl (j := (i + 4)) (nI_addE rfl (nI_k 4)) (xarr_r rfl rfl) rfl (by show _ < S.1; omega) (by show S.1 ≤ 65536; omega) rfl ?_
    refine xs_f 434 r_286_433 rfl ?_
    refine xs_f 436 r_286_434 rfl ?_
    refine xs_f 437 r_286_436 rfl ?_
    refine xs_f 438 r_286_437 rfl ?_
    refine xs_ald 439 0 r_286_438 (fun _ _ => rfl) rfl rfl rfl (j := (i + 5)) (nI_addE rfl (nI_k 5)) (xarr_r rfl rfl) rfl (by show _ < S.1; omega) (by show S.1 ≤ 65536; omega) rfl ?_
    refine xs_f 440 r_286_439 rfl ?_
    refine xs_f 442 r_286_440 rfl ?_
    refine xs_f 444 r_286_442 rfl ?_
    refine xs_f 445 r_286_444 rfl ?_
    refine xs_ald 446 0 r_286_445 (fun _ _ => rfl) rfl rfl rfl (j := (i + 6)) (nI_addE rfl (nI_k 6)) (xarr_r rfl rfl) rfl (by show _ < S.1; omega) (by show S.1 ≤ 65536; omega) rfl ?_
    refine xs_call (lv2 := [(0, _), (1, _), (2, _), (3, _), (4, _), (5, _), (6, _)]) r_286_446 rfl rfl (by decide) (xcan_0 rfl rfl M9.1 (by rfl)) rfl (m_167 M9 hG (by omega) h8 hrm (fun hc f2 M2 y2 => ?_) (fun hc => absurd hc (by rw [zM]; decide)))
    refine xK_v rfl ?_
    refine xs_f 451 (lv2 := [(7, _), (6, _), (0, _), (1, _), (2, _), (3, _), (4, _), (5, _)]) r_286_449 rfl ?_
    refine xs_f 452 r_286_451 rfl ?_
    refine xs_call (lv2 := [(0, _)]) r_286_452 rfl rfl (by decide) (xcan_0 rfl rfl M2.1 (by rfl)) rfl ?_
    refine xs_f 1 r_149_0 rfl ?_
    refine xs_get 4 r_149_1 rfl rfl M2.1 (by rfl) ?_
    refine xs_ret r_149_4 rfl ?_
    refine xK_v rfl ?_
    refine xs_f 457 r_286_455 rfl ?_
    refine xs_if 462 460 r_286_457 rfl (fun hth => ?_) (fun hth => ?_)
    · refine xs_f 464 r_286_462 rfl ?_
      refine xs_f 479 r_286_464 rfl ?_
      refine xs_f 2897 r_286_479 rfl ?_
      obtain ⟨p9, c9, n9, t9⟩ := T9
      exact xP_lv [(0, .ref 12), (1, .ref 32), (2, .ref 809), (3, .ref 818), (4, .ref 819), (5, .int (nI i))] rfl ⟨rfl, rfl, rfl, rfl, rfl, rfl, trivial⟩ (k _ (hP.p (h2 := (f2, _)) (X9.fr (fun x hx => y2 x (by omega))) (S9.fr (fun x z1 z2 => y2 x (by omega))) ⟨p9, c9, n9, t9.fr (fun x z1 z2 => y2 x (by omega))⟩ ⟨_, _, _, _, _, _, M2⟩ ⟨_, O9.fr (y2 _ (by omega))⟩ (fun x hx => (y2 x (by omega)).trans (e9 x (by omega) (by omega))) B9 (by omega) (by omega) (by omega)))
    · exact absurd (by first | exact congrArg nI zM | rfl) hth
  · have zE := betF_cong (by omega) r6 r7 (S.2 (i + 1)) (S.2 (i + 2)) (S.2 (i + 3)) (S.2 (i + 4)) (S.2 (i + 5)) (S.2 (i + 6))
    have zM := zE.symm.trans z9
    have T8 : ∃ p cc nu, TxP f8 804 tn p cc Bu nu := ⟨_, _, _, hT.fr (fun x z1 z2 => y8 x (by omega))⟩
    have e8 : ∀ x, (((794 ≤ x ∧ x < 804) ∨ 807 ≤ x)) → f8 x = h.1 x := fun x h1 => y8 x (by omega)
    refine xK_v rfl ?_
    refine xs_f 17 r_245_16 rfl ?_
    refine xs_astL 18 r_245_17 (fun _ _ => rfl) rfl rfl rfl (j := 0) (nI_k 0) (hO.fr (e8 818 (by omega))) (by omega) (fun f1 O9 y1 => ?_)
    have X9 := X8.fr (g := f1) (fun x hx => y1 x (by omega))
    have S9 := S8.fr (g := f1) (fun x z1 z2 => y1 x (by omega))
    obtain ⟨p8, c8, n8, t8⟩ := T8
    have T9 : ∃ p cc nu, TxP f1 804 _ p cc _ nu := ⟨p8, c8, n8, t8.fr (fun x z1 z2 => y1 x (by omega))⟩
    have e9 : ∀ x, (((794 ≤ x ∧ x < 804) ∨ 807 ≤ x)) → x ≠ 818 → f1 x = h.1 x := fun x h1 h2 => (y1 x (by omega)).trans (e8 x h1)
    have M9 := hM.fr (fun x z1 z2 => e9 x (by omega) (by omega))
    have B9 : h.2 = h.2 ∨ h.2 = (xbump h).2 := Or.inl rfl
    refine xs_f 41 r_245_18 rfl ?_
    refine xs_f 42 r_245_41 rfl ?_
    refine xs_ret r_245_42 rfl ?_
    refine xK_v rfl ?_
    refine xs_f 408 (lv2 := [(6, _), (0, _), (1, _), (2, _), (3, _), (4, _), (5, _)]) r_286_406 rfl ?_
    refine xs_f 409 r_286_408 rfl ?_
    refine xs_f 410 r_286_409 rfl ?_
    refine xs_f 412 r_286_410 rfl ?_
    refine xs_f 413 r_286_412 rfl ?_
    refine xs_f 414 r_286_413 rfl ?_
    refine xs_ald 415 0 r_286_414 (fun _ _ => rfl) rfl rfl rfl (j := (i + 1)) (nI_addE rfl (nI_k 1)) (xarr_r rfl rfl) rfl (by show _ < S.1; omega) (by show S.1 ≤ 65536; omega) rfl ?_
    refine xs_f 416 r_286_415 rfl ?_
    refine xs_f 418 r_286_416 rfl ?_
    refine xs_f 419 r_286_418 rfl ?_
    refine xs_f 420 r_286_419 rfl ?_
    refine xs_ald 421 0 r_286_420 (fun _ _ => rfl) rfl rfl rfl (j := (i + 2)) (nI_addE rfl (nI_k 2)) (xarr_r rfl rfl) rfl (by show _ < S.1; omega) (by show S.1 ≤ 65536; omega) rfl ?_
    refine xs_f 422 r_286_421 rfl ?_
    refine xs_f 424 r_286_422 rfl ?_
    refine xs_f 425 r_286_424 rfl ?_
    refine xs_f 426 r_286_425 rfl ?_
    refine xs_ald 427 0 r_286_426 (fun _ _ => rfl) rfl rfl rfl (j := (i + 3)) (nI_addE rfl (nI_k 3)) (xarr_r rfl rfl) rfl (by show _ < S.1; omega) (by show S.1 ≤ 65536; omega) rfl ?_
    refine xs_f 428 r_286_427 rfl ?_
    refine xs_f 430 r_286_428 rfl ?_
    refine xs_f 431 r_286_430 rfl ?_
    refine xs_f 432 r_286_431 rfl ?_
    refine xs_ald 433 0 r_286_432 (fun _ _ => rfl) rfl rfl rfl (j := (i + 4)) (nI_addE rfl (nI_k 4)) (xarr_r rfl rfl) rfl (by show _ < S.1; omega) (by show S.1 ≤ 65536; omega) rfl ?_
    refine xs_f 434 r_286_433 rfl ?_
    refine xs_f 436 r_286_434 rfl ?_
    refine xs_f 437 r_286_436 rfl ?_
    refine xs_f 438 r_286_437 rfl ?_
    refine xs_ald 439 0 r_286_438 (fun _ _ => rfl) rfl rfl rfl (j := (i + 5)) (nI_addE rfl (nI_k 5)) (xarr_r rfl rfl) rfl (by show _ < S.1; omega) (by show S.1 ≤ 65536; omega) rfl ?_
    refine xs_f 440 r_286_439 rfl ?_
    refine xs_f 442 r_286_440 rfl ?_
    refine xs_f 444 r_286_442 rfl ?_
    refine xs_f 445 r_286_444 rfl ?_
    refine xs_ald 446 0 r_286_445 (fun _ _ => rfl) rfl rfl rfl (j := (i + 6)) (nI_addE rfl (nI_k 6)) (xarr_r rfl rfl) rfl (by show _ < S.1; omega) (by show S.1 ≤ 65536; omega) rfl ?_
    refine xs_call (lv2 := [(0, _), (1, _), (2, _), (3, _), (4, _), (5, _), (6, _)]) r_286_446 rfl rfl (by decide) (xcan_0 rfl rfl M9.1 (by rfl)) rfl (m_167 M9 hG (by omega) h8 hrm (fun hc => absurd zM hc) (fun hc i2 hi2 hp2 hq2 hm2 f2 M2 y2 => ?_))
    have ei : i1 = i2 := nI_inj (hp1.symm.trans hp2) (by omega) (by omega)
    subst ei
    have q9 : (pl i1).1 - (S.2 (i + 6)) = G (10 + i1) - (S.2 (i + 6)) := by rw [show (pl i1).1 = G (10 + i1) from (r6 i1 hi1).1]
    refine xK_v rfl ?_
    refine xs_f 451 (lv2 := [(7, _), (6, _), (0, _), (1, _), (2, _), (3, _), (4, _), (5, _)]) r_286_449 rfl ?_
    refine xs_f 452 r_286_451 rfl ?_
    refine xs_call (lv2 := [(0, _)]) r_286_452 rfl rfl (by decide) (xcan_0 rfl rfl M2.1 (by rfl)) rfl ?_
    refine xs_f 1 r_149_0 rfl ?_
    refine xs_get 4 r_149_1 rfl rfl M2.1 (by rfl) ?_
    refine xs_ret r_149_4 rfl ?_
    refine xK_v rfl ?_
    refine xs_f 457 r_286_455 rfl ?_
    refine xs_f 462 r_286_457 rfl ?_
    refine xs_f 464 r_286_462 rfl ?_
    refine xs_f 467 r_286_464 rfl ?_
    refine xs_f 468 r_286_467 rfl ?_
    refine xs_f 469 r_286_468 rfl ?_
    refine xs_aldL 470 r_286_469 (fun _ _ => rfl) rfl rfl rfl (j := 0) (nI_k 0) (O9.fr (y2 _ (by omega))) (by omega) ?_
    rw [xw_s]
    refine xs_f 472 r_286_470 rfl ?_
    refine xs_f 473 r_286_472 rfl ?_
    refine xs_f 474 r_286_473 rfl ?_
    refine xs_if 479 477 r_286_474 rfl (fun hl => ?_) (fun hl => ?_)
    · refine xs_f 2897 r_286_479 rfl ?_
      obtain ⟨p9, c9, n9, t9⟩ := T9
      exact xP_lv [(0, .ref 12), (1, .ref 32), (2, .ref 809), (3, .ref 818), (4, .ref 819), (5, .int (nI i))] rfl ⟨rfl, rfl, rfl, rfl, rfl, rfl, trivial⟩ (k _ (hP.p (h2 := (f2, _)) (X9.fr (fun x hx => y2 x (by omega))) (S9.fr (fun x z1 z2 => y2 x (by omega))) ⟨p9, c9, n9, t9.fr (fun x z1 z2 => y2 x (by omega))⟩ ⟨_, _, _, _, _, _, M2⟩ ⟨_, O9.fr (y2 _ (by omega))⟩ (fun x hx => (y2 x (by omega)).trans (e9 x (by omega) (by omega))) B9 (by omega) (by omega) (by omega)))
    · exact absurd (by rw [q9]; exact lg_cmp_r _) hl

theorem lw_3 {S : XSc} {d : Nat} {h : XH} {Q : XO → XH → Prop} {i c : Nat} (hi : i + 7 ≤ S.1) (hL : S.1 ≤ 3584) (hc : c ≤ 511) (hI : LwI h c) (k : ∀ h2, LwI h2 (c + 1) → xP S (d + 14) 286 2897 [(0, .ref 12), (1, .ref 32), (2, .ref 809), (3, .ref 818), (4, .ref 819), (5, .int (nI i))] [] h2 Q) : xP S (d + 14) 286 482 [(0, .ref 12), (1, .ref 32), (2, .ref 809), (3, .ref 818), (4, .ref 819), (5, .int (nI i))] [] h Q := by
  obtain ⟨H, Sv, pos, ch, sv, K, ea, fa, G, tn, Bu, on, Le, hP⟩ := hI
  obtain ⟨hX, hS, ⟨W, lo, hi2, hC⟩, ⟨p0, cc0, nu0, hT⟩, hZ, ⟨B, Mo, Pa, th, sp, wr, hM⟩, ⟨w0, hO⟩, hD, ⟨hK, h8, ht, hon⟩, hcn⟩ := id hP
  obtain ⟨o0, hHi, hSv, G8, hG8⟩ := id hX
  obtain ⟨mn, np, no, nn, N, sc, ho, TS, TH, tr, pl, q, s, R, hB, hr, hk, hN, hs⟩ := id hS
  obtain ⟨hG, ⟨r2, r3, r4⟩, r5, r6, r7, r8⟩ := id hr
  obtain ⟨m0, g0, b0, H0, S0, U0, L0, M0, A0⟩ := id hM
  have np5 := hG.1.2
  have no6 := hG.2.1.2
  have mm5 : ∀ i, i < no → (gQ G mn i).2.2.1 ≤ 5 := fun i hi => (hG.2.2 i (by omega)).2
  have hok : 0 < no → okQ (gE G 0) (mn 0) := fun hn => okEst.Q np5 ((hk.2.1 0 hn).cg (r7 0 hn).symm).2.2.2.1
  refine xs_f 483 r_286_482 rfl ?_
  refine xs_f 484 r_286_483 rfl ?_
  refine xs_f 486 r_286_484 rfl ?_
  refine xs_f 487 r_286_486 rfl ?_
  refine xs_f 488 r_286_487 rfl ?_
  refine xs_ald 489 0 r_286_488 (fun _ _ => rfl) rfl rfl rfl (j := (i + 1)) (nI_addE rfl (nI_k 1)) (xarr_r rfl rfl) rfl (by show _ < S.1; omega) (by show S.1 ≤ 65536; omega) rfl ?_
  refine xs_f 490 r_286_489 rfl ?_
  refine xs_call (lv2 := [(0, _), (1, _), (2, _)]) r_286_490 rfl rfl (by decide) (xcan_3 rfl rfl) rfl ?_
  refine xs_f 1 r_246_0 rfl ?_
  refine xs_f 2 r_246_1 rfl ?_
  refine xs_f 3 r_246_2 rfl ?_
  refine xs_f 4 r_246_3 rfl ?_
  refine xs_call (lv2 := [(0, _), (1, _)]) r_246_4 rfl rfl (by decide) (xcan_0 rfl rfl (by first | assumption | exact xup_s | exact o0 | exact M9.1 | (refine (xup_n (by omega)).trans ?_; first | assumption | exact xup_s | exact o0 | exact M9.1) | (refine (xup_n (by omega)).trans ((xup_n (by omega)).trans ?_); first | assumption | exact xup_s | exact o0 | exact M9.1) | (refine (xup_n (by omega)).trans ((xup_n (by omega)).trans ((xup_n (by omega)).trans ?_)); first | assumption | exact xup_s | exact o0 | exact M9.1)) (by rfl)) rfl (e_87 hX hB hr hk hN hs (by omega) (fl5 (settF_le no (S.2 (i + 1))) (fun z => absurd z (by unfold settF postF; (repeat' split) <;> omega)) (fun z9 => ?_) (fun z9 => ?_) (fun z => absurd z (by unfold settF postF; (repeat' split) <;> omega)) (fun z => absurd z (by unfold settF postF; (repeat' split) <;> omega))) (fun z9 f8 pos8 X8 S8 y8 => ?_))
  · have zM := cSet_c.2 z9
    have X8 := hX
    have S8 := hS
    have T8 : ∃ p cc nu, TxP h.1 804 tn p cc Bu nu := ⟨_, _, _, hT⟩
    have e8 : ∀ x, (((794 ≤ x ∧ x < 804) ∨ 807 ≤ x)) → h.1 x = h.1 x := fun _ _ => rfl
    have X9 := X8
    have S9 := S8
    have T9 := T8
    have O9 : LA (xbump (h.1, h.2)).1 818 1 w0 := hO.fr (e8 818 (by omega))
    have e9 : ∀ x, (((794 ≤ x ∧ x < 804) ∨ 807 ≤ x)) → x ≠ 818 → (xbump (h.1, h.2)).1 x = h.1 x := fun x h1 h2 => e8 x h1
    have M9 := hM.fr (fun x z1 z2 => e9 x (by omega) (by omega))
    have B9 : (xbump (h.1, h.2)).2 = h.2 ∨ (xbump (h.1, h.2)).2 = (xbump h).2 := Or.inr rfl
    refine xK_c (lv2 := [(0, _), (1, _), (2, _)]) rfl rfl rfl rfl ?_
    refine xs_f 17 r_246_16 rfl ?_
    refine xs_ret r_246_17 rfl ?_
    refine xK_v rfl ?_
    refine xs_f 495 (lv2 := [(6, _), (0, _), (1, _), (2, _), (3, _), (4, _), (5, _)]) r_286_493 rfl ?_
    refine xs_f 496 r_286_495 rfl ?_
    refine xs_f 497 r_286_496 rfl ?_
    refine xs_f 499 r_286_497 rfl ?_
    refine xs_f 500 r_286_499 rfl ?_
    refine xs_f 501 r_286_500 rfl ?_
    refine xs_ald 502 0 r_286_501 (fun _ _ => rfl) rfl rfl rfl (j := (i + 1)) (nI_addE rfl (nI_k 1)) (xarr_r rfl rfl) rfl (by show _ < S.1; omega) (by show S.1 ≤ 65536; omega) rfl ?_
    refine xs_call (lv2 := [(0, _), (1, _)]) r_286_502 rfl rfl (by decide) (xcan_0 rfl rfl M9.1 (by rfl)) rfl (m_173n M9 hG (by omega) h8 r4 (by omega) hok (fun hc f2 M2 y2 => ?_) (fun hc => absurd hc (by rw [zM]; decide)))
    refine xK_v rfl ?_
    refine xs_f 507 (lv2 := [(7, _), (6, _), (0, _), (1, _), (2, _), (3, _), (4, _), (5, _)]) r_286_505 rfl ?_
    refine xs_f 508 r_286_507 rfl ?_
    refine xs_call (lv2 := [(0, _)]) r_286_508 rfl rfl (by decide) (xcan_0 rfl rfl M2.1 (by rfl)) rfl ?_
    refine xs_f 1 r_149_0 rfl ?_
    refine xs_get 4 r_149_1 rfl rfl M2.1 (by rfl) ?_
    refine xs_ret r_149_4 rfl ?_
    refine xK_v rfl ?_
    refine xs_f 513 r_286_511 rfl ?_
    refine xs_if 518 516 r_286_513 rfl (fun hth => ?_) (fun hth => ?_)
    · refine xs_f 520 r_286_518 rfl ?_
      refine xs_f 535 r_286_520 rfl ?_
      refine xs_f 2897 r_286_535 rfl ?_
      obtain ⟨p9, c9, n9, t9⟩ := T9
      exact xP_lv [(0, .ref 12), (1, .ref 32), (2, .ref 809), (3, .ref 818), (4, .ref 819), (5, .int (nI i))] rfl ⟨rfl, rfl, rfl, rfl, rfl, rfl, trivial⟩ (k _ (hP.p (h2 := (f2, _)) (X9.fr (fun x hx => y2 x (by omega))) (S9.fr (fun x z1 z2 => y2 x (by omega))) ⟨p9, c9, n9, t9.fr (fun x z1 z2 => y2 x (by omega))⟩ ⟨_, _, _, _, _, _, M2⟩ ⟨_, O9.fr (y2 _ (by omega))⟩ (fun x hx => (y2 x (by omega)).trans (e9 x (by omega) (by omega))) B9 (by omega) (by omega) (by omega)))
    · exact absurd (by first | exact congrArg nI zM | rfl) hth
  · have zM := cSet_c.1 z9
    have X8 := hX
    have S8 := hS
    have T8 : ∃ p cc nu, TxP h.1 804 tn p cc Bu nu := ⟨_, _, _, hT⟩
    have e8 : ∀ x, (((794 ≤ x ∧ x < 804) ∨ 807 ≤ x)) → h.1 x = h.1 x := fun _ _ => rfl
    have X9 := X8
    have S9 := S8
    have T9 := T8
    have O9 : LA (xbump (h.1, h.2)).1 818 1 w0 := hO.fr (e8 818 (by omega))
    have e9 : ∀ x, (((794 ≤ x ∧ x < 804) ∨ 807 ≤ x)) → x ≠ 818 → (xbump (h.1, h.2)).1 x = h.1 x := fun x h1 h2 => e8 x h1
    have M9 := hM.fr (fun x z1 z2 => e9 x (by omega) (by omega))
    have B9 : (xbump (h.1, h.2)).2 = h.2 ∨ (xbump (h.1, h.2)).2 = (xbump h).2 := Or.inr rfl
    refine xK_c (lv2 := [(0, _), (1, _), (2, _)]) rfl rfl rfl rfl ?_
    refine xs_f 14 r_246_13 rfl ?_
    refine xs_ret r_246_14 rfl ?_
    refine xK_v rfl ?_
    refine xs_f 495 (lv2 := [(6, _), (0, _), (1, _), (2, _), (3, _), (4, _), (5, _)]) r_286_493 rfl ?_
    refine xs_f 496 r_286_495 rfl ?_
    refine xs_f 497 r_286_496 rfl ?_
    refine xs_f 499 r_286_497 rfl ?_
    refine xs_f 500 r_286_499 rfl ?_
    refine xs_f 501 r_286_500 rfl ?_
    refine xs_ald 502 0 r_286_501 (fun _ _ => rfl) rfl rfl rfl (j := (i + 1)) (nI_addE rfl (nI_k 1)) (xarr_r rfl rfl) rfl (by show _ < S.1; omega) (by show S.1 ≤ 65536; omega) rfl ?_
    refine xs_call (lv2 := [(0, _), (1, _)]) r_286_502 rfl rfl (by decide) (xcan_0 rfl rfl M9.1 (by rfl)) rfl (m_173n M9 hG (by omega) h8 r4 (by omega) hok (fun hc f2 M2 y2 => ?_) (fun hc => absurd hc (by rw [zM]; decide)))
    refine xK_v rfl ?_
    refine xs_f 507 (lv2 := [(7, _), (6, _), (0, _), (1, _), (2, _), (3, _), (4, _), (5, _)]) r_286_505 rfl ?_
    refine xs_f 508 r_286_507 rfl ?_
    refine xs_call (lv2 := [(0, _)]) r_286_508 rfl rfl (by decide) (xcan_0 rfl rfl M2.1 (by rfl)) rfl ?_
    refine xs_f 1 r_149_0 rfl ?_
    refine xs_get 4 r_149_1 rfl rfl M2.1 (by rfl) ?_
    refine xs_ret r_149_4 rfl ?_
    refine xK_v rfl ?_
    refine xs_f 513 r_286_511 rfl ?_
    refine xs_if 518 516 r_286_513 rfl (fun hth => ?_) (fun hth => ?_)
    · refine xs_f 520 r_286_518 rfl ?_
      refine xs_f 535 r_286_520 rfl ?_
      refine xs_f 2897 r_286_535 rfl ?_
      obtain ⟨p9, c9, n9, t9⟩ := T9
      exact xP_lv [(0, .ref 12), (1, .ref 32), (2, .ref 809), (3, .ref 818), (4, .ref 819), (5, .int (nI i))] rfl ⟨rfl, rfl, rfl, rfl, rfl, rfl, trivial⟩ (k _ (hP.p (h2 := (f2, _)) (X9.fr (fun x hx => y2 x (by omega))) (S9.fr (fun x z1 z2 => y2 x (by omega))) ⟨p9, c9, n9, t9.fr (fun x z1 z2 => y2 x (by omega))⟩ ⟨_, _, _, _, _, _, M2⟩ ⟨_, O9.fr (y2 _ (by omega))⟩ (fun x hx => (y2 x (by omega)).trans (e9 x (by omega) (by omega))) B9 (by omega) (by omega) (by omega)))
    · exact absurd (by first | exact congrArg nI zM | rfl) hth
  · have zM := cSet_0.mpr z9
    have ht9 : 0 ≤ (S.2 (i + 1)) ∧ (S.2 (i + 1)) ≤ 999 := by
      unfold settF at z9
      split at z9
      · assumption
      · omega
    have hn9 : 0 < no := by
      unfold settF at z9
      rw [if_pos ht9] at z9
      unfold postF at z9
      split at z9 <;> omega
    obtain ⟨k9, hk9, et9⟩ := nat_of (b := 999) ht9.1 ht9.2 (by omega)
    have ok9 := ((hk.2.1 0 hn9).cg (r7 0 hn9).symm).2.2.2.1
    have q9 : nI (hitN (q 0).2.2.2 (S.2 (i + 1)) (q 0).2.2.1) = nI (cntB (fun r => hitM (gE G 0 r) (S.2 (i + 1))) (mn 0)) := by
      rw [et9, show (q 0).2.2.1 = mn 0 from (r7 0 hn9).2.2.1]
      exact congrArg nI (hit_eq hk9 _ (r7 0 hn9).2.2.2 ok9)
    have T8 : ∃ p cc nu, TxP f8 804 tn p cc Bu nu := ⟨_, _, _, hT.fr (fun x z1 z2 => y8 x (by omega))⟩
    have e8 : ∀ x, (((794 ≤ x ∧ x < 804) ∨ 807 ≤ x)) → f8 x = h.1 x := fun x h1 => y8 x (by omega)
    refine xK_v rfl ?_
    refine xs_f 8 r_246_7 rfl ?_
    refine xs_astL 9 r_246_8 (fun _ _ => rfl) rfl rfl rfl (j := 0) (nI_k 0) (hO.fr (e8 818 (by omega))) (by omega) (fun f1 O9 y1 => ?_)
    have X9 := X8.fr (g := f1) (fun x hx => y1 x (by omega))
    have S9 := S8.fr (g := f1) (fun x z1 z2 => y1 x (by omega))
    obtain ⟨p8, c8, n8, t8⟩ := T8
    have T9 : ∃ p cc nu, TxP f1 804 _ p cc _ nu := ⟨p8, c8, n8, t8.fr (fun x z1 z2 => y1 x (by omega))⟩
    have e9 : ∀ x, (((794 ≤ x ∧ x < 804) ∨ 807 ≤ x)) → x ≠ 818 → f1 x = h.1 x := fun x h1 h2 => (y1 x (by omega)).trans (e8 x h1)
    have M9 := hM.fr (fun x z1 z2 => e9 x (by omega) (by omega))
    have B9 : h.2 = h.2 ∨ h.2 = (xbump h).2 := Or.inl rfl
    refine xs_f 18 r_246_9 rfl ?_
    refine xs_f 19 r_246_18 rfl ?_
    refine xs_ret r_246_19 rfl ?_
    refine xK_v rfl ?_
    refine xs_f 495 (lv2 := [(6, _), (0, _), (1, _), (2, _), (3, _), (4, _), (5, _)]) r_286_493 rfl ?_
    refine xs_f 496 r_286_495 rfl ?_
    refine xs_f 497 r_286_496 rfl ?_
    refine xs_f 499 r_286_497 rfl ?_
    refine xs_f 500 r_286_499 rfl ?_
    refine xs_f 501 r_286_500 rfl ?_
    refine xs_ald 502 0 r_286_501 (fun _ _ => rfl) rfl rfl rfl (j := (i + 1)) (nI_addE rfl (nI_k 1)) (xarr_r rfl rfl) rfl (by show _ < S.1; omega) (by show S.1 ≤ 65536; omega) rfl ?_
    refine xs_call (lv2 := [(0, _), (1, _)]) r_286_502 rfl rfl (by decide) (xcan_0 rfl rfl M9.1 (by rfl)) rfl (m_173n M9 hG (by omega) h8 r4 (by omega) hok (fun hc => absurd zM hc) (fun hc f2 M2 y2 => ?_))
    refine xK_v rfl ?_
    refine xs_f 507 (lv2 := [(7, _), (6, _), (0, _), (1, _), (2, _), (3, _), (4, _), (5, _)]) r_286_505 rfl ?_
    refine xs_f 508 r_286_507 rfl ?_
    refine xs_call (lv2 := [(0, _)]) r_286_508 rfl rfl (by decide) (xcan_0 rfl rfl M2.1 (by rfl)) rfl ?_
    refine xs_f 1 r_149_0 rfl ?_
    refine xs_get 4 r_149_1 rfl rfl M2.1 (by rfl) ?_
    refine xs_ret r_149_4 rfl ?_
    refine xK_v rfl ?_
    refine xs_f 513 r_286_511 rfl ?_
    refine xs_f 518 r_286_513 rfl ?_
    refine xs_f 520 r_286_518 rfl ?_
    refine xs_f 523 r_286_520 rfl ?_
    refine xs_f 524 r_286_523 rfl ?_
    refine xs_f 525 r_286_524 rfl ?_
    refine xs_aldL 526 r_286_525 (fun _ _ => rfl) rfl rfl rfl (j := 0) (nI_k 0) (O9.fr (y2 _ (by omega))) (by omega) ?_
    rw [xw_s]
    refine xs_f 528 r_286_526 rfl ?_
    refine xs_f 529 r_286_528 rfl ?_
    refine xs_f 530 r_286_529 rfl ?_
    refine xs_if 535 533 r_286_530 rfl (fun hl => ?_) (fun hl => ?_)
    · refine xs_f 2897 r_286_535 rfl ?_
      obtain ⟨p9, c9, n9, t9⟩ := T9
      exact xP_lv [(0, .ref 12), (1, .ref 32), (2, .ref 809), (3, .ref 818), (4, .ref 819), (5, .int (nI i))] rfl ⟨rfl, rfl, rfl, rfl, rfl, rfl, trivial⟩ (k _ (hP.p (h2 := (f2, _)) (X9.fr (fun x hx => y2 x (by omega))) (S9.fr (fun x z1 z2 => y2 x (by omega))) ⟨p9, c9, n9, t9.fr (fun x z1 z2 => y2 x (by omega))⟩ ⟨_, _, _, _, _, _, M2⟩ ⟨_, O9.fr (y2 _ (by omega))⟩ (fun x hx => (y2 x (by omega)).trans (e9 x (by omega) (by omega))) B9 (by omega) (by omega) (by omega)))
    · exact absurd (by rw [q9]; exact lg_cmp_r _) hl

theorem lw_4 {S : XSc} {d : Nat} {h : XH} {Q : XO → XH → Prop} {i c : Nat} (hi : i + 7 ≤ S.1) (hL : S.1 ≤ 3584) (hc : c ≤ 511) (hI : LwI h c) (k : ∀ h2, LwI h2 (c + 1) → xP S (d + 14) 286 2897 [(0, .ref 12), (1, .ref 32), (2, .ref 809), (3, .ref 818), (4, .ref 819), (5, .int (nI i))] [] h2 Q) : xP S (d + 14) 286 538 [(0, .ref 12), (1, .ref 32), (2, .ref 809), (3, .ref 818), (4, .ref 819), (5, .int (nI i))] [] h Q := by
  obtain ⟨H, Sv, pos, ch, sv, K, ea, fa, G, tn, Bu, on, Le, hP⟩ := hI
  obtain ⟨hX, hS, ⟨W, lo, hi2, hC⟩, ⟨p0, cc0, nu0, hT⟩, hZ, ⟨B, Mo, Pa, th, sp, wr, hM⟩, ⟨w0, hO⟩, hD, ⟨hK, h8, ht, hon⟩, hcn⟩ := id hP
  obtain ⟨o0, hHi, hSv, G8, hG8⟩ := id hX
  obtain ⟨mn, np, no, nn, N, sc, ho, TS, TH, tr, pl, q, s, R, hB, hr, hk, hN, hs⟩ := id hS
  obtain ⟨hG, ⟨r2, r3, r4⟩, r5, r6, r7, r8⟩ := id hr
  obtain ⟨m0, g0, b0, H0, S0, U0, L0, M0, A0⟩ := id hM
  have np5 := hG.1.2
  have no6 := hG.2.1.2
  have mm5 : ∀ i, i < no → (gQ G mn i).2.2.1 ≤ 5 := fun i hi => (hG.2.2 i (by omega)).2
  refine xs_f 539 r_286_538 rfl ?_
  refine xs_f 540 r_286_539 rfl ?_
  refine xs_call (lv2 := [(0, _), (1, _)]) r_286_540 rfl rfl (by decide) (xcan_3 rfl rfl) rfl ?_
  refine xs_f 1 r_247_0 rfl ?_
  refine xs_f 2 r_247_1 rfl ?_
  refine xs_f 3 r_247_2 rfl ?_
  refine xs_call (lv2 := [(0, _)]) r_247_3 rfl rfl (by decide) (xcan_0 rfl rfl (by first | assumption | exact xup_s | exact o0 | exact M9.1 | (refine (xup_n (by omega)).trans ?_; first | assumption | exact xup_s | exact o0 | exact M9.1) | (refine (xup_n (by omega)).trans ((xup_n (by omega)).trans ?_); first | assumption | exact xup_s | exact o0 | exact M9.1) | (refine (xup_n (by omega)).trans ((xup_n (by omega)).trans ((xup_n (by omega)).trans ?_)); first | assumption | exact xup_s | exact o0 | exact M9.1)) (by rfl)) rfl (e_88 hX hB hr hk hN hs (by omega) (fl5 (postF_le no) (fun z => absurd z (by unfold postF; split <;> omega)) (fun z9 => ?_) (fun z => absurd z (by unfold postF; split <;> omega)) (fun z => absurd z (by unfold postF; split <;> omega)) (fun z => absurd z (by unfold postF; split <;> omega))) (fun z9 f8 pos8 X8 S8 y8 => ?_))
  · have zM := cPst_c z9
    have X8 := hX
    have S8 := hS
    have T8 : ∃ p cc nu, TxP h.1 804 tn p cc Bu nu := ⟨_, _, _, hT⟩
    have e8 : ∀ x, (((794 ≤ x ∧ x < 804) ∨ 807 ≤ x)) → h.1 x = h.1 x := fun _ _ => rfl
    have X9 := X8
    have S9 := S8
    have T9 := T8
    have O9 : LA (xbump (h.1, h.2)).1 818 1 w0 := hO.fr (e8 818 (by omega))
    have e9 : ∀ x, (((794 ≤ x ∧ x < 804) ∨ 807 ≤ x)) → x ≠ 818 → (xbump (h.1, h.2)).1 x = h.1 x := fun x h1 h2 => e8 x h1
    have M9 := hM.fr (fun x z1 z2 => e9 x (by omega) (by omega))
    have B9 : (xbump (h.1, h.2)).2 = h.2 ∨ (xbump (h.1, h.2)).2 = (xbump h).2 := Or.inr rfl
    refine xK_c (lv2 := [(0, _), (1, _)]) rfl rfl rfl rfl ?_
    refine xs_f 13 r_247_12 rfl ?_
    refine xs_ret r_247_13 rfl ?_
    refine xK_v rfl ?_
    refine xs_f 545 (lv2 := [(6, _), (0, _), (1, _), (2, _), (3, _), (4, _), (5, _)]) r_286_543 rfl ?_
    refine xs_f 546 r_286_545 rfl ?_
    refine xs_call (lv2 := [(0, _)]) r_286_546 rfl rfl (by decide) (xcan_0 rfl rfl M9.1 (by rfl)) rfl (m_175 M9 hG (by omega) h8 (fun hc f2 M2 y2 => ?_) (fun hc => absurd hc (by rw [zM]; decide)))
    refine xK_v rfl ?_
    refine xs_f 551 (lv2 := [(7, _), (6, _), (0, _), (1, _), (2, _), (3, _), (4, _), (5, _)]) r_286_549 rfl ?_
    refine xs_f 552 r_286_551 rfl ?_
    refine xs_call (lv2 := [(0, _)]) r_286_552 rfl rfl (by decide) (xcan_0 rfl rfl M2.1 (by rfl)) rfl ?_
    refine xs_f 1 r_149_0 rfl ?_
    refine xs_get 4 r_149_1 rfl rfl M2.1 (by rfl) ?_
    refine xs_ret r_149_4 rfl ?_
    refine xK_v rfl ?_
    refine xs_f 557 r_286_555 rfl ?_
    refine xs_if 562 560 r_286_557 rfl (fun hth => ?_) (fun hth => ?_)
    · refine xs_f 564 r_286_562 rfl ?_
      refine xs_f 579 r_286_564 rfl ?_
      refine xs_f 2897 r_286_579 rfl ?_
      obtain ⟨p9, c9, n9, t9⟩ := T9
      exact xP_lv [(0, .ref 12), (1, .ref 32), (2, .ref 809), (3, .ref 818), (4, .ref 819), (5, .int (nI i))] rfl ⟨rfl, rfl, rfl, rfl, rfl, rfl, trivial⟩ (k _ (hP.p (h2 := (f2, _)) (X9.fr (fun x hx => y2 x (by omega))) (S9.fr (fun x z1 z2 => y2 x (by omega))) ⟨p9, c9, n9, t9.fr (fun x z1 z2 => y2 x (by omega))⟩ ⟨_, _, _, _, _, _, M2⟩ ⟨_, O9.fr (y2 _ (by omega))⟩ (fun x hx => (y2 x (by omega)).trans (e9 x (by omega) (by omega))) B9 (by omega) (by omega) (by omega)))
    · exact absurd (by first | exact congrArg nI zM | rfl) hth
  · have zM := cPst_0.mpr z9
    have hn9 : 0 < no := by
      unfold postF at z9
      split at z9 <;> omega
    have q9 : (rot q 0 (no - 1) 0).1 = gPst G no 120 := ((hr.post hn9).2.2.2.2.1 0 hn9).1
    have T8 : ∃ p cc nu, TxP f8 804 tn p cc Bu nu := ⟨_, _, _, hT.fr (fun x z1 z2 => y8 x (by omega))⟩
    have e8 : ∀ x, (((794 ≤ x ∧ x < 804) ∨ 807 ≤ x)) → f8 x = h.1 x := fun x h1 => y8 x (by omega)
    refine xK_v rfl ?_
    refine xs_f 7 r_247_6 rfl ?_
    refine xs_astL 8 r_247_7 (fun _ _ => rfl) rfl rfl rfl (j := 0) (nI_k 0) (hO.fr (e8 818 (by omega))) (by omega) (fun f1 O9 y1 => ?_)
    have X9 := X8.fr (g := f1) (fun x hx => y1 x (by omega))
    have S9 := S8.fr (g := f1) (fun x z1 z2 => y1 x (by omega))
    obtain ⟨p8, c8, n8, t8⟩ := T8
    have T9 : ∃ p cc nu, TxP f1 804 _ p cc _ nu := ⟨p8, c8, n8, t8.fr (fun x z1 z2 => y1 x (by omega))⟩
    have e9 : ∀ x, (((794 ≤ x ∧ x < 804) ∨ 807 ≤ x)) → x ≠ 818 → f1 x = h.1 x := fun x h1 h2 => (y1 x (by omega)).trans (e8 x h1)
    have M9 := hM.fr (fun x z1 z2 => e9 x (by omega) (by omega))
    have B9 : h.2 = h.2 ∨ h.2 = (xbump h).2 := Or.inl rfl
    refine xs_f 14 r_247_8 rfl ?_
    refine xs_f 15 r_247_14 rfl ?_
    refine xs_ret r_247_15 rfl ?_
    refine xK_v rfl ?_
    refine xs_f 545 (lv2 := [(6, _), (0, _), (1, _), (2, _), (3, _), (4, _), (5, _)]) r_286_543 rfl ?_
    refine xs_f 546 r_286_545 rfl ?_
    refine xs_call (lv2 := [(0, _)]) r_286_546 rfl rfl (by decide) (xcan_0 rfl rfl M9.1 (by rfl)) rfl (m_175 M9 hG (by omega) h8 (fun hc => absurd zM hc) (fun hc Mo2 f2 M2 y2 => ?_))
    refine xK_v rfl ?_
    refine xs_f 551 (lv2 := [(7, _), (6, _), (0, _), (1, _), (2, _), (3, _), (4, _), (5, _)]) r_286_549 rfl ?_
    refine xs_f 552 r_286_551 rfl ?_
    refine xs_call (lv2 := [(0, _)]) r_286_552 rfl rfl (by decide) (xcan_0 rfl rfl M2.1 (by rfl)) rfl ?_
    refine xs_f 1 r_149_0 rfl ?_
    refine xs_get 4 r_149_1 rfl rfl M2.1 (by rfl) ?_
    refine xs_ret r_149_4 rfl ?_
    refine xK_v rfl ?_
    refine xs_f 557 r_286_555 rfl ?_
    refine xs_f 562 r_286_557 rfl ?_
    refine xs_f 564 r_286_562 rfl ?_
    refine xs_f 567 r_286_564 rfl ?_
    refine xs_f 568 r_286_567 rfl ?_
    refine xs_f 569 r_286_568 rfl ?_
    refine xs_aldL 570 r_286_569 (fun _ _ => rfl) rfl rfl rfl (j := 0) (nI_k 0) (O9.fr (y2 _ (by omega))) (by omega) ?_
    rw [xw_s]
    refine xs_f 572 r_286_570 rfl ?_
    refine xs_f 573 r_286_572 rfl ?_
    refine xs_f 574 r_286_573 rfl ?_
    refine xs_if 579 577 r_286_574 rfl (fun hl => ?_) (fun hl => ?_)
    · refine xs_f 2897 r_286_579 rfl ?_
      obtain ⟨p9, c9, n9, t9⟩ := T9
      exact xP_lv [(0, .ref 12), (1, .ref 32), (2, .ref 809), (3, .ref 818), (4, .ref 819), (5, .int (nI i))] rfl ⟨rfl, rfl, rfl, rfl, rfl, rfl, trivial⟩ (k _ (hP.p (h2 := (f2, _)) (X9.fr (fun x hx => y2 x (by omega))) (S9.fr (fun x z1 z2 => y2 x (by omega))) ⟨p9, c9, n9, t9.fr (fun x z1 z2 => y2 x (by omega))⟩ ⟨_, _, _, _, _, _, M2⟩ ⟨_, O9.fr (y2 _ (by omega))⟩ (fun x hx => (y2 x (by omega)).trans (e9 x (by omega) (by omega))) B9 (by omega) (by omega) (by omega)))
    · exact absurd (by rw [q9]; exact lg_cmp_r _) hl

theorem lw_5 {S : XSc} {d : Nat} {h : XH} {Q : XO → XH → Prop} {i c : Nat} (hi : i + 7 ≤ S.1) (hL : S.1 ≤ 3584) (hc : c ≤ 511) (hI : LwI h c) (k : ∀ h2, LwI h2 (c + 1) → xP S (d + 14) 286 2897 [(0, .ref 12), (1, .ref 32), (2, .ref 809), (3, .ref 818), (4, .ref 819), (5, .int (nI i))] [] h2 Q) : xP S (d + 14) 286 582 [(0, .ref 12), (1, .ref 32), (2, .ref 809), (3, .ref 818), (4, .ref 819), (5, .int (nI i))] [] h Q := by
  obtain ⟨H, Sv, pos, ch, sv, K, ea, fa, G, tn, Bu, on, Le, hP⟩ := hI
  obtain ⟨hX, hS, ⟨W, lo, hi2, hC⟩, ⟨p0, cc0, nu0, hT⟩, hZ, ⟨B, Mo, Pa, th, sp, wr, hM⟩, ⟨w0, hO⟩, hD, ⟨hK, h8, ht, hon⟩, hcn⟩ := id hP
  obtain ⟨o0, hHi, hSv, G8, hG8⟩ := id hX
  obtain ⟨mn, np, no, nn, N, sc, ho, TS, TH, tr, pl, q, s, R, hB, hr, hk, hN, hs⟩ := id hS
  obtain ⟨hG, ⟨r2, r3, r4⟩, r5, r6, r7, r8⟩ := id hr
  obtain ⟨m0, g0, b0, H0, S0, U0, L0, M0, A0⟩ := id hM
  have np5 := hG.1.2
  have no6 := hG.2.1.2
  have mm5 : ∀ i, i < no → (gQ G mn i).2.2.1 ≤ 5 := fun i hi => (hG.2.2 i (by omega)).2
  refine xs_f 583 r_286_582 rfl ?_
  refine xs_f 584 r_286_583 rfl ?_
  refine xs_f 586 r_286_584 rfl ?_
  refine xs_f 587 r_286_586 rfl ?_
  refine xs_f 588 r_286_587 rfl ?_
  refine xs_ald 589 0 r_286_588 (fun _ _ => rfl) rfl rfl rfl (j := (i + 1)) (nI_addE rfl (nI_k 1)) (xarr_r rfl rfl) rfl (by show _ < S.1; omega) (by show S.1 ≤ 65536; omega) rfl ?_
  refine xs_f 590 r_286_589 rfl ?_
  refine xs_call (lv2 := [(0, _), (1, _), (2, _)]) r_286_590 rfl rfl (by decide) (xcan_3 rfl rfl) rfl ?_
  refine xs_f 1 r_248_0 rfl ?_
  refine xs_f 2 r_248_1 rfl ?_
  refine xs_f 3 r_248_2 rfl ?_
  refine xs_f 4 r_248_3 rfl ?_
  refine xs_call (lv2 := [(0, _), (1, _)]) r_248_4 rfl rfl (by decide) (xcan_0 rfl rfl (by first | assumption | exact xup_s | exact o0 | exact M9.1 | (refine (xup_n (by omega)).trans ?_; first | assumption | exact xup_s | exact o0 | exact M9.1) | (refine (xup_n (by omega)).trans ((xup_n (by omega)).trans ?_); first | assumption | exact xup_s | exact o0 | exact M9.1) | (refine (xup_n (by omega)).trans ((xup_n (by omega)).trans ((xup_n (by omega)).trans ?_)); first | assumption | exact xup_s | exact o0 | exact M9.1)) (by rfl)) rfl (e_89 hX hB hr hk hN hs (by omega) (fl5 (leavF_le np pl (S.2 (i + 1))) (fun z9 => ?_) (fun z => absurd z (by have := leavF_v (np := np) (pl := pl) (p := (S.2 (i + 1))); omega)) (fun z => absurd z (by have := leavF_v (np := np) (pl := pl) (p := (S.2 (i + 1))); omega)) (fun z => absurd z (by have := leavF_v (np := np) (pl := pl) (p := (S.2 (i + 1))); omega)) (fun z9 => ?_)) (fun z9 i1 hi1 hp1 f8 pos8 X8 S8 y8 => ?_))
  · have zE := leavF_cong (np := np) (by omega) r6 (S.2 (i + 1))
    have zM := cLea_c.1 (zE.symm.trans z9)
    have X8 := hX
    have S8 := hS
    have T8 : ∃ p cc nu, TxP h.1 804 tn p cc Bu nu := ⟨_, _, _, hT⟩
    have e8 : ∀ x, (((794 ≤ x ∧ x < 804) ∨ 807 ≤ x)) → h.1 x = h.1 x := fun _ _ => rfl
    have X9 := X8
    have S9 := S8
    have T9 := T8
    have O9 : LA (xbump (h.1, h.2)).1 818 1 w0 := hO.fr (e8 818 (by omega))
    have e9 : ∀ x, (((794 ≤ x ∧ x < 804) ∨ 807 ≤ x)) → x ≠ 818 → (xbump (h.1, h.2)).1 x = h.1 x := fun x h1 h2 => e8 x h1
    have M9 := hM.fr (fun x z1 z2 => e9 x (by omega) (by omega))
    have B9 : (xbump (h.1, h.2)).2 = h.2 ∨ (xbump (h.1, h.2)).2 = (xbump h).2 := Or.inr rfl
    refine xK_c (lv2 := [(0, _), (1, _), (2, _)]) rfl rfl rfl rfl ?_
    refine xs_f 14 r_248_13 rfl ?_
    refine xs_ret r_248_14 rfl ?_
    refine xK_v rfl ?_
    refine xs_f 595 (lv2 := [(6, _), (0, _), (1, _), (2, _), (3, _), (4, _), (5, _)]) r_286_593 rfl ?_
    refine xs_f 596 r_286_595 rfl ?_
    refine xs_f 597 r_286_596 rfl ?_
    refine xs_f 599 r_286_597 rfl ?_
    refine xs_f 600 r_286_599 rfl ?_
    refine xs_f 601 r_286_600 rfl ?_
    refine xs_ald 602 0 r_286_601 (fun _ _ => rfl) rfl rfl rfl (j := (i + 1)) (nI_addE rfl (nI_k 1)) (xarr_r rfl rfl) rfl (by show _ < S.1; omega) (by show S.1 ≤ 65536; omega) rfl ?_
    refine xs_call (lv2 := [(0, _), (1, _)]) r_286_602 rfl rfl (by decide) (xcan_0 rfl rfl M9.1 (by rfl)) rfl (m_178 M9 hG (by omega) h8 (fun hc f2 M2 y2 => ?_) (fun hc => absurd hc (by rw [zM]; decide)))
    refine xK_v rfl ?_
    refine xs_f 607 (lv2 := [(7, _), (6, _), (0, _), (1, _), (2, _), (3, _), (4, _), (5, _)]) r_286_605 rfl ?_
    refine xs_f 608 r_286_607 rfl ?_
    refine xs_call (lv2 := [(0, _)]) r_286_608 rfl rfl (by decide) (xcan_0 rfl rfl M2.1 (by rfl)) rfl ?_
    refine xs_f 1 r_149_0 rfl ?_
    refine xs_get 4 r_149_1 rfl rfl M2.1 (by rfl) ?_
    refine xs_ret r_149_4 rfl ?_
    refine xK_v rfl ?_
    refine xs_f 613 r_286_611 rfl ?_
    refine xs_if 618 616 r_286_613 rfl (fun hth => ?_) (fun hth => ?_)
    · refine xs_f 620 r_286_618 rfl ?_
      refine xs_f 635 r_286_620 rfl ?_
      refine xs_f 2897 r_286_635 rfl ?_
      obtain ⟨p9, c9, n9, t9⟩ := T9
      exact xP_lv [(0, .ref 12), (1, .ref 32), (2, .ref 809), (3, .ref 818), (4, .ref 819), (5, .int (nI i))] rfl ⟨rfl, rfl, rfl, rfl, rfl, rfl, trivial⟩ (k _ (hP.p (h2 := (f2, _)) (X9.fr (fun x hx => y2 x (by omega))) (S9.fr (fun x z1 z2 => y2 x (by omega))) ⟨p9, c9, n9, t9.fr (fun x z1 z2 => y2 x (by omega))⟩ ⟨_, _, _, _, _, _, M2⟩ ⟨_, O9.fr (y2 _ (by omega))⟩ (fun x hx => (y2 x (by omega)).trans (e9 x (by omega) (by omega))) B9 (by omega) (by omega) (by omega)))
    · exact absurd (by first | exact congrArg nI zM | rfl) hth
  · have zE := leavF_cong (np := np) (by omega) r6 (S.2 (i + 1))
    have zM := cLea_c.2 (zE.symm.trans z9)
    have X8 := hX
    have S8 := hS
    have T8 : ∃ p cc nu, TxP h.1 804 tn p cc Bu nu := ⟨_, _, _, hT⟩
    have e8 : ∀ x, (((794 ≤ x ∧ x < 804) ∨ 807 ≤ x)) → h.1 x = h.1 x := fun _ _ => rfl
    have X9 := X8
    have S9 := S8
    have T9 := T8
    have O9 : LA (xbump (h.1, h.2)).1 818 1 w0 := hO.fr (e8 818 (by omega))
    have e9 : ∀ x, (((794 ≤ x ∧ x < 804) ∨ 807 ≤ x)) → x ≠ 818 → (xbump (h.1, h.2)).1 x = h.1 x := fun x h1 h2 => e8 x h1
    have M9 := hM.fr (fun x z1 z2 => e9 x (by omega) (by omega))
    have B9 : (xbump (h.1, h.2)).2 = h.2 ∨ (xbump (h.1, h.2)).2 = (xbump h).2 := Or.inr rfl
    refine xK_c (lv2 := [(0, _), (1, _), (2, _)]) rfl rfl rfl rfl ?_
    refine xs_f 17 r_248_16 rfl ?_
    refine xs_ret r_248_17 rfl ?_
    refine xK_v rfl ?_
    refine xs_f 595 (lv2 := [(6, _), (0, _), (1, _), (2, _), (3, _), (4, _), (5, _)]) r_286_593 rfl ?_
    refine xs_f 596 r_286_595 rfl ?_
    refine xs_f 597 r_286_596 rfl ?_
    refine xs_f 599 r_286_597 rfl ?_
    refine xs_f 600 r_286_599 rfl ?_
    refine xs_f 601 r_286_600 rfl ?_
    refine xs_ald 602 0 r_286_601 (fun _ _ => rfl) rfl rfl rfl (j := (i + 1)) (nI_addE rfl (nI_k 1)) (xarr_r rfl rfl) rfl (by show _ < S.1; omega) (by show S.1 ≤ 65536; omega) rfl ?_
    refine xs_call (lv2 := [(0, _), (1, _)]) r_286_602 rfl rfl (by decide) (xcan_0 rfl rfl M9.1 (by rfl)) rfl (m_178 M9 hG (by omega) h8 (fun hc f2 M2 y2 => ?_) (fun hc => absurd hc (by rw [zM]; decide)))
    refine xK_v rfl ?_
    refine xs_f 607 (lv2 := [(7, _), (6, _), (0, _), (1, _), (2, _), (3, _), (4, _), (5, _)]) r_286_605 rfl ?_
    refine xs_f 608 r_286_607 rfl ?_
    refine xs_call (lv2 := [(0, _)]) r_286_608 rfl rfl (by decide) (xcan_0 rfl rfl M2.1 (by rfl)) rfl ?_
    refine xs_f 1 r_149_0 rfl ?_
    refine xs_get 4 r_149_1 rfl rfl M2.1 (by rfl) ?_
    refine xs_ret r_149_4 rfl ?_
    refine xK_v rfl ?_
    refine xs_f 613 r_286_611 rfl ?_
    refine xs_if 618 616 r_286_613 rfl (fun hth => ?_) (fun hth => ?_)
    · refine xs_f 620 r_286_618 rfl ?_
      refine xs_f 635 r_286_620 rfl ?_
      refine xs_f 2897 r_286_635 rfl ?_
      obtain ⟨p9, c9, n9, t9⟩ := T9
      exact xP_lv [(0, .ref 12), (1, .ref 32), (2, .ref 809), (3, .ref 818), (4, .ref 819), (5, .int (nI i))] rfl ⟨rfl, rfl, rfl, rfl, rfl, rfl, trivial⟩ (k _ (hP.p (h2 := (f2, _)) (X9.fr (fun x hx => y2 x (by omega))) (S9.fr (fun x z1 z2 => y2 x (by omega))) ⟨p9, c9, n9, t9.fr (fun x z1 z2 => y2 x (by omega))⟩ ⟨_, _, _, _, _, _, M2⟩ ⟨_, O9.fr (y2 _ (by omega))⟩ (fun x hx => (y2 x (by omega)).trans (e9 x (by omega) (by omega))) B9 (by omega) (by omega) (by omega)))
    · exact absurd (by first | exact congrArg nI zM | rfl) hth
  · have zE := leavF_cong (np := np) (by omega) r6 (S.2 (i + 1))
    have zM := cLea_0.mpr (zE.symm.trans z9)
    have T8 : ∃ p cc nu, TxP f8 804 tn p cc Bu nu := ⟨_, _, _, hT.fr (fun x z1 z2 => y8 x (by omega))⟩
    have e8 : ∀ x, (((794 ≤ x ∧ x < 804) ∨ 807 ≤ x)) → f8 x = h.1 x := fun x h1 => y8 x (by omega)
    refine xK_v rfl ?_
    refine xs_f 8 r_248_7 rfl ?_
    refine xs_astL 9 r_248_8 (fun _ _ => rfl) rfl rfl rfl (j := 0) (nI_k 0) (hO.fr (e8 818 (by omega))) (by omega) (fun f1 O9 y1 => ?_)
    have X9 := X8.fr (g := f1) (fun x hx => y1 x (by omega))
    have S9 := S8.fr (g := f1) (fun x z1 z2 => y1 x (by omega))
    obtain ⟨p8, c8, n8, t8⟩ := T8
    have T9 : ∃ p cc nu, TxP f1 804 _ p cc _ nu := ⟨p8, c8, n8, t8.fr (fun x z1 z2 => y1 x (by omega))⟩
    have e9 : ∀ x, (((794 ≤ x ∧ x < 804) ∨ 807 ≤ x)) → x ≠ 818 → f1 x = h.1 x := fun x h1 h2 => (y1 x (by omega)).trans (e8 x h1)
    have M9 := hM.fr (fun x z1 z2 => e9 x (by omega) (by omega))
    have B9 : h.2 = h.2 ∨ h.2 = (xbump h).2 := Or.inl rfl
    refine xs_f 18 r_248_9 rfl ?_
    refine xs_f 19 r_248_18 rfl ?_
    refine xs_ret r_248_19 rfl ?_
    refine xK_v rfl ?_
    refine xs_f 595 (lv2 := [(6, _), (0, _), (1, _), (2, _), (3, _), (4, _), (5, _)]) r_286_593 rfl ?_
    refine xs_f 596 r_286_595 rfl ?_
    refine xs_f 597 r_286_596 rfl ?_
    refine xs_f 599 r_286_597 rfl ?_
    refine xs_f 600 r_286_599 rfl ?_
    refine xs_f 601 r_286_600 rfl ?_
    refine xs_ald 602 0 r_286_601 (fun _ _ => rfl) rfl rfl rfl (j := (i + 1)) (nI_addE rfl (nI_k 1)) (xarr_r rfl rfl) rfl (by show _ < S.1; omega) (by show S.1 ≤ 65536; omega) rfl ?_
    refine xs_call (lv2 := [(0, _), (1, _)]) r_286_602 rfl rfl (by decide) (xcan_0 rfl rfl M9.1 (by rfl)) rfl (m_178 M9 hG (by omega) h8 (fun hc => absurd zM hc) (fun hc i2 hi2 hp2 f2 M2 y2 => ?_))
    have ei : i1 = i2 := nI_inj (hp1.symm.trans hp2) (by omega) (by omega)
    subst ei
    have q9 : nI (cntB (fun j => hasQ (nI i1) (q j)) no) = nI (cntB (hasM G i1 mn) no) := congrArg nI (cntB_cong (fun j hj => hasQ_cong (r7 j hj) (nI i1)))
    refine xK_v rfl ?_
    refine xs_f 607 (lv2 := [(7, _), (6, _), (0, _), (1, _), (2, _), (3, _), (4, _), (5, _)]) r_286_605 rfl ?_
    refine xs_f 608 r_286_607 rfl ?_
    refine xs_call (lv2 := [(0, _)]) r_286_608 rfl rfl (by decide) (xcan_0 rfl rfl M2.1 (by rfl)) rfl ?_
    refine xs_f 1 r_149_0 rfl ?_
    refine xs_get 4 r_149_1 rfl rfl M2.1 (by rfl) ?_
    refine xs_ret r_149_4 rfl ?_
    refine xK_v rfl ?_
    refine xs_f 613 r_286_611 rfl ?_
    refine xs_f 618 r_286_613 rfl ?_
    refine xs_f 620 r_286_618 rfl ?_
    refine xs_f 623 r_286_620 rfl ?_
    refine xs_f 624 r_286_623 rfl ?_
    refine xs_f 625 r_286_624 rfl ?_
    refine xs_aldL 626 r_286_625 (fun _ _ => rfl) rfl rfl rfl (j := 0) (nI_k 0) (O9.fr (y2 _ (by omega))) (by omega) ?_
    rw [xw_s]
    refine xs_f 628 r_286_626 rfl ?_
    refine xs_f 629 r_286_628 rfl ?_
    refine xs_f 630 r_286_629 rfl ?_
    refine xs_if 635 633 r_286_630 rfl (fun hl => ?_) (fun hl => ?_)
    · refine xs_f 2897 r_286_635 rfl ?_
      obtain ⟨p9, c9, n9, t9⟩ := T9
      exact xP_lv [(0, .ref 12), (1, .ref 32), (2, .ref 809), (3, .ref 818), (4, .ref 819), (5, .int (nI i))] rfl ⟨rfl, rfl, rfl, rfl, rfl, rfl, trivial⟩ (k _ (hP.p (h2 := (f2, _)) (X9.fr (fun x hx => y2 x (by omega))) (S9.fr (fun x z1 z2 => y2 x (by omega))) ⟨p9, c9, n9, t9.fr (fun x z1 z2 => y2 x (by omega))⟩ ⟨_, _, _, _, _, _, M2⟩ ⟨_, O9.fr (y2 _ (by omega))⟩ (fun x hx => (y2 x (by omega)).trans (e9 x (by omega) (by omega))) B9 (by omega) (by omega) (by omega)))
    · exact absurd (by rw [q9]; exact lg_cmp_r _) hl

