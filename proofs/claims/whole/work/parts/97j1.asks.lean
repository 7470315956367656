/-! the law: questions, 1 -/
theorem lw_16 {S : XSc} {d : Nat} {h : XH} {Q : XO → XH → Prop} {i c : Nat} (hi : i + 7 ≤ S.1) (hL : S.1 ≤ 3584) (hc : c ≤ 511) (hI : LwI h c) (k : ∀ h2, LwI h2 (c + 1) → xP S (d + 14) 286 2897 [(0, .ref 12), (1, .ref 32), (2, .ref 809), (3, .ref 818), (4, .ref 819), (5, .int (nI i))] [] h2 Q) : xP S (d + 14) 286 1033 [(0, .ref 12), (1, .ref 32), (2, .ref 809), (3, .ref 818), (4, .ref 819), (5, .int (nI i))] [] h Q := by
  obtain ⟨H, Sv, pos, ch, sv, K, ea, fa, G, tn, Bu, on, Le, hP⟩ := hI
  obtain ⟨hX, hS, ⟨W, lo, hi2, hC⟩, ⟨p0, cc0, nu0, hT⟩, hZ, ⟨B, Mo, Pa, th, sp, wr, hM⟩, ⟨w0, hO⟩, hD, ⟨hK, h8, ht, hon⟩, hcn⟩ := id hP
  obtain ⟨o0, hHi, hSv, G8, hG8⟩ := id hX
  obtain ⟨mn, np, no, nn, N, sc, ho, TS, TH, tr, pl, q, s, R, hB, hr, hk, hN, hs⟩ := id hS
  obtain ⟨hG, ⟨r2, r3, r4⟩, r5, r6, r7, r8⟩ := id hr
  obtain ⟨m0, g0, b0, H0, S0, U0, L0, M0, A0⟩ := id hM
  have np5 := hG.1.2
  have no6 := hG.2.1.2
  have mm5 : ∀ i, i < no → (gQ G mn i).2.2.1 ≤ 5 := fun i hi => (hG.2.2 i (by omega)).2
  have hR : (R_est q no (S.2 (i + 1)) (S.2 (i + 2))) = (R_est (gQ G mn) no (S.2 (i + 1)) (S.2 (i + 2))) := R_est_cong r7 mm5 _ _
  refine xs_f 1034 r_286_1033 rfl ?_
  refine xs_f 1035 r_286_1034 rfl ?_
  refine xs_f 1037 r_286_1035 rfl ?_
  refine xs_f 1038 r_286_1037 rfl ?_
  refine xs_f 1039 r_286_1038 rfl ?_
  refine xs_ald 1040 0 r_286_1039 (fun _ _ => rfl) rfl rfl rfl (j := (i + 1)) (nI_addE rfl (nI_k 1)) (xarr_r rfl rfl) rfl (by show _ < S.1; omega) (by show S.1 ≤ 65536; omega) rfl ?_
  refine xs_f 1041 r_286_1040 rfl ?_
  refine xs_f 1043 r_286_1041 rfl ?_
  refine xs_f 1044 r_286_1043 rfl ?_
  refine xs_f 1045 r_286_1044 rfl ?_
  refine xs_ald 1046 0 r_286_1045 (fun _ _ => rfl) rfl rfl rfl (j := (i + 2)) (nI_addE rfl (nI_k 2)) (xarr_r rfl rfl) rfl (by show _ < S.1; omega) (by show S.1 ≤ 65536; omega) rfl ?_
  refine xs_f 1047 r_286_1046 rfl ?_
  refine xs_call (lv2 := [(0, _), (1, _), (2, _), (3, _)]) r_286_1047 rfl rfl (by decide) (xcan_3 rfl rfl) rfl ?_
  refine xs_f 1 r_255_0 rfl ?_
  refine xs_f 2 r_255_1 rfl ?_
  refine xs_f 3 r_255_2 rfl ?_
  refine xs_f 4 r_255_3 rfl ?_
  refine xs_f 5 r_255_4 rfl ?_
  refine xs_call (lv2 := [(0, _), (1, _), (2, _)]) r_255_5 rfl rfl (by decide) (xcan_0 rfl rfl (by first | assumption | exact xup_s | exact o0 | exact m9 | (refine (xup_n (by omega)).trans ?_; first | assumption | exact xup_s | exact o0 | exact m9) | (refine (xup_n (by omega)).trans ((xup_n (by omega)).trans ?_); first | assumption | exact xup_s | exact o0 | exact m9) | (refine (xup_n (by omega)).trans ((xup_n (by omega)).trans ((xup_n (by omega)).trans ?_)); first | assumption | exact xup_s | exact o0 | exact m9)) (by rfl)) rfl (e_100 o0 hB (by omega) (fun z9 => ?_) (fun z9 => ?_) (fun z9 => ?_))
  · rw [hR] at z9
    have q9 : ((R_est q no (S.2 (i + 1)) (S.2 (i + 2))) : XR).2 = (R_est (gQ G mn) no (S.2 (i + 1)) (S.2 (i + 2))).2 := congrArg Prod.snd hR
    have c8 := hC
    have e8 : ∀ x, (x < 794 ∨ 804 ≤ x) → h.1 x = h.1 x := fun _ _ => rfl
    refine xK_v rfl ?_
    refine xs_f 9 r_255_8 rfl ?_
    refine xs_astL 10 r_255_9 (fun _ _ => rfl) rfl rfl rfl (j := 0) (nI_k 0) hO (by omega) (fun f1 O9 y1 => ?_)
    have z1 : ∀ x, x ≠ 818 → (x < 794 ∨ 804 ≤ x) → f1 x = h.1 x := fun x h1 h2 => (y1 x (by omega)).trans (e8 x h2)
    have e9 := z1
    have c9 := c8.fr (g := f1) (fun x h1 h2 => y1 x (by omega))
    have m9 := (e9 809 (by omega) (by omega)).trans m0
    have g9 := g0.fr (e9 _ (by omega) (by omega))
    have D9 := hD.fr (e9 _ (by omega) (by omega))
    have B9 : h.2 = h.2 ∨ h.2 = (xbump h).2 := Or.inl rfl
    refine xs_f 21 r_255_10 rfl ?_
    refine xs_f 22 r_255_21 rfl ?_
    refine xs_ret r_255_22 rfl ?_
    refine xK_v rfl ?_
    refine xs_f 1052 (lv2 := [(6, _), (0, _), (1, _), (2, _), (3, _), (4, _), (5, _)]) r_286_1050 rfl ?_
    refine xs_f 1053 r_286_1052 rfl ?_
    refine xs_f 1054 r_286_1053 rfl ?_
    refine xs_f 1056 r_286_1054 rfl ?_
    refine xs_f 1057 r_286_1056 rfl ?_
    refine xs_f 1058 r_286_1057 rfl ?_
    refine xs_ald 1059 0 r_286_1058 (fun _ _ => rfl) rfl rfl rfl (j := (i + 1)) (nI_addE rfl (nI_k 1)) (xarr_r rfl rfl) rfl (by show _ < S.1; omega) (by show S.1 ≤ 65536; omega) rfl ?_
    refine xs_f 1060 r_286_1059 rfl ?_
    refine xs_f 1062 r_286_1060 rfl ?_
    refine xs_f 1063 r_286_1062 rfl ?_
    refine xs_f 1064 r_286_1063 rfl ?_
    refine xs_ald 1065 0 r_286_1064 (fun _ _ => rfl) rfl rfl rfl (j := (i + 2)) (nI_addE rfl (nI_k 2)) (xarr_r rfl rfl) rfl (by show _ < S.1; omega) (by show S.1 ≤ 65536; omega) rfl ?_
    refine xs_call (lv2 := [(0, _), (1, _), (2, _)]) r_286_1065 rfl rfl (by decide) (xcan_0 rfl rfl (by first | assumption | exact o0 | exact m9) (by rfl)) rfl (m_189 m9 g9 hG (by omega) (fun f2 x2 y2 => ?_))
    refine xK_v rfl ?_
    refine xs_f 1070 (lv2 := [(7, _), (6, _), (0, _), (1, _), (2, _), (3, _), (4, _), (5, _)]) r_286_1068 rfl ?_
    refine xs_f 1071 r_286_1070 rfl ?_
    refine xs_call (lv2 := [(0, _)]) r_286_1071 rfl rfl (by decide) (xcan_0 rfl rfl x2 (by rfl)) rfl ?_
    refine xs_f 1 r_149_0 rfl ?_
    refine xs_get 4 r_149_1 rfl rfl x2 (by rfl) ?_
    refine xs_ret r_149_4 rfl ?_
    refine xK_v rfl ?_
    refine xs_f 1076 r_286_1074 rfl ?_
    refine xs_if 1081 1079 r_286_1076 rfl (fun hth => ?_) (fun hth => ?_)
    · refine xs_f 1083 r_286_1081 rfl ?_
      refine xs_f 1086 r_286_1083 rfl ?_
      refine xs_f 1087 r_286_1086 rfl ?_
      refine xs_f 1088 r_286_1087 rfl ?_
      refine xs_aldL 1089 r_286_1088 (fun _ _ => rfl) rfl rfl rfl (j := 0) (nI_k 0) (O9.fr (y2 _ (by omega))) (by omega) ?_
      rw [xw_s]
      refine xs_f 1091 r_286_1089 rfl ?_
      refine xs_f 1092 r_286_1091 rfl ?_
      refine xs_f 1093 r_286_1092 rfl ?_
      refine xs_if 1098 1096 r_286_1093 rfl (fun hl => ?_) (fun hl => ?_)
      · refine xs_f 2897 r_286_1098 rfl ?_
        exact xP_lv [(0, .ref 12), (1, .ref 32), (2, .ref 809), (3, .ref 818), (4, .ref 819), (5, .int (nI i))] rfl ⟨rfl, rfl, rfl, rfl, rfl, rfl, trivial⟩ (k _ (hP.q (h2 := (f2, _)) (fun x h1 h2 h3 h4 => (y2 x (by omega)).trans (e9 x h2 h4)) ⟨_, _, _, x2⟩ ⟨_, O9.fr (y2 _ (by omega))⟩ (D9.fr (y2 _ (by omega))) ⟨_, _, _, c9.fr (fun x h1 h2 => y2 x (by omega))⟩ B9))
      · exact absurd (by rw [q9]; exact lg_cmp_r _) hl
    · exact absurd (by first | exact congrArg nI z9 | rfl) hth
  · rw [hR] at z9
    have c9 := hC
    have O9 := hO
    have D9 := hD
    have e9 : ∀ x, x ≠ 818 → (x < 794 ∨ 804 ≤ x) → (xbump h).1 x = h.1 x := fun _ _ _ => rfl
    have m9 := (e9 809 (by omega) (by omega)).trans m0
    have g9 := g0.fr (e9 _ (by omega) (by omega))
    have B9 : (xbump h).2 = h.2 ∨ (xbump h).2 = (xbump h).2 := Or.inr rfl
    refine xK_c (lv2 := [(0, _), (1, _), (2, _), (3, _)]) rfl rfl rfl rfl ?_
    refine xs_f 16 r_255_15 rfl ?_
    refine xs_ret r_255_16 rfl ?_
    refine xK_v rfl ?_
    refine xs_f 1052 (lv2 := [(6, _), (0, _), (1, _), (2, _), (3, _), (4, _), (5, _)]) r_286_1050 rfl ?_
    refine xs_f 1053 r_286_1052 rfl ?_
    refine xs_f 1054 r_286_1053 rfl ?_
    refine xs_f 1056 r_286_1054 rfl ?_
    refine xs_f 1057 r_286_1056 rfl ?_
    refine xs_f 1058 r_286_1057 rfl ?_
    refine xs_ald 1059 0 r_286_1058 (fun _ _ => rfl) rfl rfl rfl (j := (i + 1)) (nI_addE rfl (nI_k 1)) (xarr_r rfl rfl) rfl (by show _ < S.1; omega) (by show S.1 ≤ 65536; omega) rfl ?_
    refine xs_f 1060 r_286_1059 rfl ?_
    refine xs_f 1062 r_286_1060 rfl ?_
    refine xs_f 1063 r_286_1062 rfl ?_
    refine xs_f 1064 r_286_1063 rfl ?_
    refine xs_ald 1065 0 r_286_1064 (fun _ _ => rfl) rfl rfl rfl (j := (i + 2)) (nI_addE rfl (nI_k 2)) (xarr_r rfl rfl) rfl (by show _ < S.1; omega) (by show S.1 ≤ 65536; omega) rfl ?_
    refine xs_call (lv2 := [(0, _), (1, _), (2, _)]) r_286_1065 rfl rfl (by decide) (xcan_0 rfl rfl (by first | assumption | exact o0 | exact m9) (by rfl)) rfl (m_189 m9 g9 hG (by omega) (fun f2 x2 y2 => ?_))
    refine xK_v rfl ?_
    refine xs_f 1070 (lv2 := [(7, _), (6, _), (0, _), (1, _), (2, _), (3, _), (4, _), (5, _)]) r_286_1068 rfl ?_
    refine xs_f 1071 r_286_1070 rfl ?_
    refine xs_call (lv2 := [(0, _)]) r_286_1071 rfl rfl (by decide) (xcan_0 rfl rfl x2 (by rfl)) rfl ?_
    refine xs_f 1 r_149_0 rfl ?_
    refine xs_get 4 r_149_1 rfl rfl x2 (by rfl) ?_
    refine xs_ret r_149_4 rfl ?_
    refine xK_v rfl ?_
    refine xs_f 1076 r_286_1074 rfl ?_
    refine xs_if 1081 1079 r_286_1076 rfl (fun hth => ?_) (fun hth => ?_)
    · refine xs_f 1083 r_286_1081 rfl ?_
      refine xs_f 1098 r_286_1083 rfl ?_
      refine xs_f 2897 r_286_1098 rfl ?_
      exact xP_lv [(0, .ref 12), (1, .ref 32), (2, .ref 809), (3, .ref 818), (4, .ref 819), (5, .int (nI i))] rfl ⟨rfl, rfl, rfl, rfl, rfl, rfl, trivial⟩ (k _ (hP.q (h2 := (f2, _)) (fun x h1 h2 h3 h4 => (y2 x (by omega)).trans (e9 x h2 h4)) ⟨_, _, _, x2⟩ ⟨_, O9.fr (y2 _ (by omega))⟩ (D9.fr (y2 _ (by omega))) ⟨_, _, _, c9.fr (fun x h1 h2 => y2 x (by omega))⟩ B9))
    · exact absurd (by first | exact congrArg nI z9 | rfl) hth
  · rw [hR] at z9
    have c9 := hC
    have O9 := hO
    have D9 := hD
    have e9 : ∀ x, x ≠ 818 → (x < 794 ∨ 804 ≤ x) → (xbump h).1 x = h.1 x := fun _ _ _ => rfl
    have m9 := (e9 809 (by omega) (by omega)).trans m0
    have g9 := g0.fr (e9 _ (by omega) (by omega))
    have B9 : (xbump h).2 = h.2 ∨ (xbump h).2 = (xbump h).2 := Or.inr rfl
    refine xK_c (lv2 := [(0, _), (1, _), (2, _), (3, _)]) rfl rfl rfl rfl ?_
    refine xs_f 20 r_255_19 rfl ?_
    refine xs_ret r_255_20 rfl ?_
    refine xK_v rfl ?_
    refine xs_f 1052 (lv2 := [(6, _), (0, _), (1, _), (2, _), (3, _), (4, _), (5, _)]) r_286_1050 rfl ?_
    refine xs_f 1053 r_286_1052 rfl ?_
    refine xs_f 1054 r_286_1053 rfl ?_
    refine xs_f 1056 r_286_1054 rfl ?_
    refine xs_f 1057 r_286_1056 rfl ?_
    refine xs_f 1058 r_286_1057 rfl ?_
    refine xs_ald 1059 0 r_286_1058 (fun _ _ => rfl) rfl rfl rfl (j := (i + 1)) (nI_addE rfl (nI_k 1)) (xarr_r rfl rfl) rfl (by show _ < S.1; omega) (by show S.1 ≤ 65536; omega) rfl ?_
    refine xs_f 1060 r_286_1059 rfl ?_
    refine xs_f 1062 r_286_1060 rfl ?_
    refine xs_f 1063 r_286_1062 rfl ?_
    refine xs_f 1064 r_286_1063 rfl ?_
    refine xs_ald 1065 0 r_286_1064 (fun _ _ => rfl) rfl rfl rfl (j := (i + 2)) (nI_addE rfl (nI_k 2)) (xarr_r rfl rfl) rfl (by show _ < S.1; omega) (by show S.1 ≤ 65536; omega) rfl ?_
    refine xs_call (lv2 := [(0, _), (1, _), (2, _)]) r_286_1065 rfl rfl (by decide) (xcan_0 rfl rfl (by first | assumption | exact o0 | exact m9) (by rfl)) rfl (m_189 m9 g9 hG (by omega) (fun f2 x2 y2 => ?_))
    refine xK_v rfl ?_
    refine xs_f 1070 (lv2 := [(7, _), (6, _), (0, _), (1, _), (2, _), (3, _), (4, _), (5, _)]) r_286_1068 rfl ?_
    refine xs_f 1071 r_286_1070 rfl ?_
    refine xs_call (lv2 := [(0, _)]) r_286_1071 rfl rfl (by decide) (xcan_0 rfl rfl x2 (by rfl)) rfl ?_
    refine xs_f 1 r_149_0 rfl ?_
    refine xs_get 4 r_149_1 rfl rfl x2 (by rfl) ?_
    refine xs_ret r_149_4 rfl ?_
    refine xK_v rfl ?_
    refine xs_f 1076 r_286_1074 rfl ?_
    refine xs_if 1081 1079 r_286_1076 rfl (fun hth => ?_) (fun hth => ?_)
    · refine xs_f 1083 r_286_1081 rfl ?_
      refine xs_f 1098 r_286_1083 rfl ?_
      refine xs_f 2897 r_286_1098 rfl ?_
      exact xP_lv [(0, .ref 12), (1, .ref 32), (2, .ref 809), (3, .ref 818), (4, .ref 819), (5, .int (nI i))] rfl ⟨rfl, rfl, rfl, rfl, rfl, rfl, trivial⟩ (k _ (hP.q (h2 := (f2, _)) (fun x h1 h2 h3 h4 => (y2 x (by omega)).trans (e9 x h2 h4)) ⟨_, _, _, x2⟩ ⟨_, O9.fr (y2 _ (by omega))⟩ (D9.fr (y2 _ (by omega))) ⟨_, _, _, c9.fr (fun x h1 h2 => y2 x (by omega))⟩ B9))
    · exact absurd (by first | exact congrArg nI z9 | rfl) hth

theorem lw_17_0 {S : XSc} {d : Nat} {h : XH} {Q : XO → XH → Prop} {i c : Nat} (hi : i + 7 ≤ S.1) (hL : S.1 ≤ 3584) (hc : c ≤ 511) {H Sv : Nat → Int32} {pos ch : Nat} {sv : Bool} {K : Nat} {ea fa : Int32} {G : Nat → Int32} {tn : Nat} {Bu : Nat → Int32} {on : Nat} {Le : Nat → Int32} (hP : LwP h c H Sv pos ch sv K ea fa G tn Bu on Le) {mn : Nat → Nat} {np no : Nat} {nn : Int32} {N sc : Nat} {ho : Int32} {TS TH tr : Nat → Int32} {pl : Nat → XPl} {q : Nat → XQu} {s : Nat → Nat} {R : Nat → Nat → Nat} (hB : BdP h.1 33 np no nn sc ho TS TH tr pl q s R) (hr : RG G mn np no nn sc ho tr pl q) (hk : OKc np no nn N sc ho TS TH pl q) (hN : N ≤ K) (hs : sc ≤ K) (hv : (R_has np (gQ G mn) no (S.2 (i + 1)) (S.2 (i + 2))).2 = 0) (k : ∀ h2, LwI h2 (c + 1) → xP S (d + 14) 286 2897 [(0, .ref 12), (1, .ref 32), (2, .ref 809), (3, .ref 818), (4, .ref 819), (5, .int (nI i))] [] h2 Q) : xP S (d + 14) 286 1101 [(0, .ref 12), (1, .ref 32), (2, .ref 809), (3, .ref 818), (4, .ref 819), (5, .int (nI i))] [] h Q := by
  obtain ⟨hX, hS, ⟨W, lo, hi2, hC⟩, ⟨p0, cc0, nu0, hT⟩, hZ, ⟨B, Mo, Pa, th, sp, wr, hM⟩, ⟨w0, hO⟩, hD, ⟨hK, h8, ht, hon⟩, hcn⟩ := id hP
  obtain ⟨o0, hHi, hSv, G8, hG8⟩ := id hX
  obtain ⟨hG, ⟨r2, r3, r4⟩, r5, r6, r7, r8⟩ := id hr
  obtain ⟨m0, g0, b0, H0, S0, U0, L0, M0, A0⟩ := id hM
  have np5 := hG.1.2
  have no6 := hG.2.1.2
  have mm5 : ∀ i, i < no → (gQ G mn i).2.2.1 ≤ 5 := fun i hi => (hG.2.2 i (by omega)).2
  have hR : (R_has np q no (S.2 (i + 1)) (S.2 (i + 2))) = (R_has np (gQ G mn) no (S.2 (i + 1)) (S.2 (i + 2))) := R_has_cong r7 np _ _
  have hv9 : (R_has np q no (S.2 (i + 1)) (S.2 (i + 2))).2 = 0 := by rw [hR]; exact hv
  refine xs_f 1102 r_286_1101 rfl ?_
  refine xs_f 1103 r_286_1102 rfl ?_
  refine xs_f 1105 r_286_1103 rfl ?_
  refine xs_f 1106 r_286_1105 rfl ?_
  refine xs_f 1107 r_286_1106 rfl ?_
  refine xs_ald 1108 0 r_286_1107 (fun _ _ => rfl) rfl rfl rfl (j := (i + 1)) (nI_addE rfl (nI_k 1)) (xarr_r rfl rfl) rfl (by show _ < S.1; omega) (by show S.1 ≤ 65536; omega) rfl ?_
  refine xs_f 1109 r_286_1108 rfl ?_
  refine xs_f 1111 r_286_1109 rfl ?_
  refine xs_f 1112 r_286_1111 rfl ?_
  refine xs_f 1113 r_286_1112 rfl ?_
  refine xs_ald 1114 0 r_286_1113 (fun _ _ => rfl) rfl rfl rfl (j := (i + 2)) (nI_addE rfl (nI_k 2)) (xarr_r rfl rfl) rfl (by show _ < S.1; omega) (by show S.1 ≤ 65536; omega) rfl ?_
  refine xs_f 1115 r_286_1114 rfl ?_
  refine xs_call (lv2 := [(0, _), (1, _), (2, _), (3, _)]) r_286_1115 rfl rfl (by decide) (xcan_3 rfl rfl) rfl ?_
  refine xs_f 1 r_256_0 rfl ?_
  refine xs_f 2 r_256_1 rfl ?_
  refine xs_f 3 r_256_2 rfl ?_
  refine xs_f 4 r_256_3 rfl ?_
  refine xs_f 5 r_256_4 rfl ?_
  refine xs_call (lv2 := [(0, _), (1, _), (2, _)]) r_256_5 rfl rfl (by decide) (xcan_0 rfl rfl (by first | assumption | exact xup_s | exact o0 | exact m9 | (refine (xup_n (by omega)).trans ?_; first | assumption | exact xup_s | exact o0 | exact m9) | (refine (xup_n (by omega)).trans ((xup_n (by omega)).trans ?_); first | assumption | exact xup_s | exact o0 | exact m9) | (refine (xup_n (by omega)).trans ((xup_n (by omega)).trans ((xup_n (by omega)).trans ?_)); first | assumption | exact xup_s | exact o0 | exact m9)) (by rfl)) rfl (e_101 o0 hB (by omega) (fun z9 => ?_) (fun z9 => ?_) (fun z9 => ?_))
  · rw [hR] at z9
    have q9 : ((R_has np q no (S.2 (i + 1)) (S.2 (i + 2))) : XR).2 = (R_has np (gQ G mn) no (S.2 (i + 1)) (S.2 (i + 2))).2 := congrArg Prod.snd hR
    have c8 := hC
    have e8 : ∀ x, (x < 794 ∨ 804 ≤ x) → h.1 x = h.1 x := fun _ _ => rfl
    rw [hv9]
    refine xK_v rfl ?_
    refine xs_f 15 r_256_8 rfl ?_
    refine xs_f 16 r_256_15 rfl ?_
    refine xs_astL 17 r_256_16 (fun _ _ => rfl) rfl rfl rfl (j := 0) (nI_k 0) hO (by omega) (fun f1 O9 y1 => ?_)
    have z1 : ∀ x, x ≠ 818 → (x < 794 ∨ 804 ≤ x) → f1 x = h.1 x := fun x h1 h2 => (y1 x (by omega)).trans (e8 x h2)
    have e9 := z1
    have c9 := c8.fr (g := f1) (fun x h1 h2 => y1 x (by omega))
    have m9 := (e9 809 (by omega) (by omega)).trans m0
    have g9 := g0.fr (e9 _ (by omega) (by omega))
    have D9 := hD.fr (e9 _ (by omega) (by omega))
    have B9 : h.2 = h.2 ∨ h.2 = (xbump h).2 := Or.inl rfl
    refine xs_f 28 r_256_17 rfl ?_
    refine xs_f 29 r_256_28 rfl ?_
    refine xs_ret r_256_29 rfl ?_
    refine xK_v rfl ?_
    refine xs_f 1120 (lv2 := [(6, _), (0, _), (1, _), (2, _), (3, _), (4, _), (5, _)]) r_286_1118 rfl ?_
    refine xs_f 1121 r_286_1120 rfl ?_
    refine xs_f 1122 r_286_1121 rfl ?_
    refine xs_f 1124 r_286_1122 rfl ?_
    refine xs_f 1125 r_286_1124 rfl ?_
    refine xs_f 1126 r_286_1125 rfl ?_
    refine xs_ald 1127 0 r_286_1126 (fun _ _ => rfl) rfl rfl rfl (j := (i + 1)) (nI_addE rfl (nI_k 1)) (xarr_r rfl rfl) rfl (by show _ < S.1; omega) (by show S.1 ≤ 65536; omega) rfl ?_
    refine xs_f 1128 r_286_1127 rfl ?_
    refine xs_f 1130 r_286_1128 rfl ?_
    refine xs_f 1131 r_286_1130 rfl ?_
    refine xs_f 1132 r_286_1131 rfl ?_
    refine xs_ald 1133 0 r_286_1132 (fun _ _ => rfl) rfl rfl rfl (j := (i + 2)) (nI_addE rfl (nI_k 2)) (xarr_r rfl rfl) rfl (by show _ < S.1; omega) (by show S.1 ≤ 65536; omega) rfl ?_
    refine xs_call (lv2 := [(0, _), (1, _), (2, _)]) r_286_1133 rfl rfl (by decide) (xcan_0 rfl rfl (by first | assumption | exact o0 | exact m9) (by rfl)) rfl (m_190 m9 g9 hG (by omega) (fun f2 x2 y2 => ?_))
    rw [hv]
    refine xK_v rfl ?_
    refine xs_f 1138 (lv2 := [(7, _), (6, _), (0, _), (1, _), (2, _), (3, _), (4, _), (5, _)]) r_286_1136 rfl ?_
    refine xs_f 1139 r_286_1138 rfl ?_
    refine xs_call (lv2 := [(0, _)]) r_286_1139 rfl rfl (by decide) (xcan_0 rfl rfl x2 (by rfl)) rfl ?_
    refine xs_f 1 r_149_0 rfl ?_
    refine xs_get 4 r_149_1 rfl rfl x2 (by rfl) ?_
    refine xs_ret r_149_4 rfl ?_
    refine xK_v rfl ?_
    refine xs_f 1144 r_286_1142 rfl ?_
    refine xs_if 1149 1147 r_286_1144 rfl (fun hth => ?_) (fun hth => ?_)
    · refine xs_f 1151 r_286_1149 rfl ?_
      refine xs_f 1154 r_286_1151 rfl ?_
      refine xs_f 1155 r_286_1154 rfl ?_
      refine xs_f 1156 r_286_1155 rfl ?_
      refine xs_aldL 1157 r_286_1156 (fun _ _ => rfl) rfl rfl rfl (j := 0) (nI_k 0) (O9.fr (y2 _ (by omega))) (by omega) ?_
      rw [xw_s]
      refine xs_f 1159 r_286_1157 rfl ?_
      refine xs_f 1166 r_286_1159 rfl ?_
      refine xs_f 1167 r_286_1166 rfl ?_
      refine xs_f 1168 r_286_1167 rfl ?_
      refine xs_f 1173 r_286_1168 (by rw [lg_cmp_r]; rfl) ?_
      refine xs_f 2897 r_286_1173 rfl ?_
      exact xP_lv [(0, .ref 12), (1, .ref 32), (2, .ref 809), (3, .ref 818), (4, .ref 819), (5, .int (nI i))] rfl ⟨rfl, rfl, rfl, rfl, rfl, rfl, trivial⟩ (k _ (hP.q (h2 := (f2, _)) (fun x h1 h2 h3 h4 => (y2 x (by omega)).trans (e9 x h2 h4)) ⟨_, _, _, x2⟩ ⟨_, O9.fr (y2 _ (by omega))⟩ (D9.fr (y2 _ (by omega))) ⟨_, _, _, c9.fr (fun x h1 h2 => y2 x (by omega))⟩ B9))
    · exact absurd (by first | exact congrArg nI z9 | rfl) hth
  · rw [hR] at z9
    have c9 := hC
    have O9 := hO
    have D9 := hD
    have e9 : ∀ x, x ≠ 818 → (x < 794 ∨ 804 ≤ x) → (xbump h).1 x = h.1 x := fun _ _ _ => rfl
    have m9 := (e9 809 (by omega) (by omega)).trans m0
    have g9 := g0.fr (e9 _ (by omega) (by omega))
    have B9 : (xbump h).2 = h.2 ∨ (xbump h).2 = (xbump h).2 := Or.inr rfl
    refine xK_c (lv2 := [(0, _), (1, _), (2, _), (3, _)]) rfl rfl rfl rfl ?_
    refine xs_f 23 r_256_22 rfl ?_
    refine xs_ret r_256_23 rfl ?_
    refine xK_v rfl ?_
    refine xs_f 1120 (lv2 := [(6, _), (0, _), (1, _), (2, _), (3, _), (4, _), (5, _)]) r_286_1118 rfl ?_
    refine xs_f 1121 r_286_1120 rfl ?_
    refine xs_f 1122 r_286_1121 rfl ?_
    refine xs_f 1124 r_286_1122 rfl ?_
    refine xs_f 1125 r_286_1124 rfl ?_
    refine xs_f 1126 r_286_1125 rfl ?_
    refine xs_ald 1127 0 r_286_1126 (fun _ _ => rfl) rfl rfl rfl (j := (i + 1)) (nI_addE rfl (nI_k 1)) (xarr_r rfl rfl) rfl (by show _ < S.1; omega) (by show S.1 ≤ 65536; omega) rfl ?_
    refine xs_f 1128 r_286_1127 rfl ?_
    refine xs_f 1130 r_286_1128 rfl ?_
    refine xs_f 1131 r_286_1130 rfl ?_
    refine xs_f 1132 r_286_1131 rfl ?_
    refine xs_ald 1133 0 r_286_1132 (fun _ _ => rfl) rfl rfl rfl (j := (i + 2)) (nI_addE rfl (nI_k 2)) (xarr_r rfl rfl) rfl (by show _ < S.1; omega) (by show S.1 ≤ 65536; omega) rfl ?_
    refine xs_call (lv2 := [(0, _), (1, _), (2, _)]) r_286_1133 rfl rfl (by decide) (xcan_0 rfl rfl (by first | assumption | exact o0 | exact m9) (by rfl)) rfl (m_190 m9 g9 hG (by omega) (fun f2 x2 y2 => ?_))
    refine xK_v rfl ?_
    refine xs_f 1138 (lv2 := [(7, _), (6, _), (0, _), (1, _), (2, _), (3, _), (4, _), (5, _)]) r_286_1136 rfl ?_
    refine xs_f 1139 r_286_1138 rfl ?_
    refine xs_call (lv2 := [(0, _)]) r_286_1139 rfl rfl (by decide) (xcan_0 rfl rfl x2 (by rfl)) rfl ?_
    refine xs_f 1 r_149_0 rfl ?_
    refine xs_get 4 r_149_1 rfl rfl x2 (by rfl) ?_
    refine xs_ret r_149_4 rfl ?_
    refine xK_v rfl ?_
    refine xs_f 1144 r_286_1142 rfl ?_
    refine xs_if 1149 1147 r_286_1144 rfl (fun hth => ?_) (fun hth => ?_)
    · refine xs_f 1151 r_286_1149 rfl ?_
      refine xs_f 1173 r_286_1151 rfl ?_
      refine xs_f 2897 r_286_1173 rfl ?_
      exact xP_lv [(0, .ref 12), (1, .ref 32), (2, .ref 809), (3, .ref 818), (4, .ref 819), (5, .int (nI i))] rfl ⟨rfl, rfl, rfl, rfl, rfl, rfl, trivial⟩ (k _ (hP.q (h2 := (f2, _)) (fun x h1 h2 h3 h4 => (y2 x (by omega)).trans (e9 x h2 h4)) ⟨_, _, _, x2⟩ ⟨_, O9.fr (y2 _ (by omega))⟩ (D9.fr (y2 _ (by omega))) ⟨_, _, _, c9.fr (fun x h1 h2 => y2 x (by omega))⟩ B9))
    · exact absurd (by first | exact congrArg nI z9 | rfl) hth
  · rw [hR] at z9
    have c9 := hC
    have O9 := hO
    have D9 := hD
    have e9 : ∀ x, x ≠ 818 → (x < 794 ∨ 804 ≤ x) → (xbump h).1 x = h.1 x := fun _ _ _ => rfl
    have m9 := (e9 809 (by omega) (by omega)).trans m0
    have g9 := g0.fr (e9 _ (by omega) (by omega))
    have B9 : (xbump h).2 = h.2 ∨ (xbump h).2 = (xbump h).2 := Or.inr rfl
    refine xK_c (lv2 := [(0, _), (1, _), (2, _), (3, _)]) rfl rfl rfl rfl ?_
    refine xs_f 27 r_256_26 rfl ?_
    refine xs_ret r_256_27 rfl ?_
    refine xK_v rfl ?_
    refine xs_f 1120 (lv2 := [(6, _), (0, _), (1, _), (2, _), (3, _), (4, _), (5, _)]) r_286_1118 rfl ?_
    refine xs_f 1121 r_286_1120 rfl ?_
    refine xs_f 1122 r_286_1121 rfl ?_
    refine xs_f 1124 r_286_1122 rfl ?_
    refine xs_f 1125 r_286_1124 rfl ?_
    refine xs_f 1126 r_286_1125 rfl ?_
    refine xs_ald 1127 0 r_286_1126 (fun _ _ => rfl) rfl rfl rfl (j := (i + 1)) (nI_addE rfl (nI_k 1)) (xarr_r rfl rfl) rfl (by show _ < S.1; omega) (by show S.1 ≤ 65536; omega) rfl ?_
    refine xs_f 1128 r_286_1127 rfl ?_
    refine xs_f 1130 r_286_1128 rfl ?_
    refine xs_f 1131 r_286_1130 rfl ?_
    refine xs_f 1132 r_286_1131 rfl ?_
    refine xs_ald 1133 0 r_286_1132 (fun _ _ => rfl) rfl rfl rfl (j := (i + 2)) (nI_addE rfl (nI_k 2)) (xarr_r rfl rfl) rfl (by show _ < S.1; omega) (by show S.1 ≤ 65536; omega) rfl ?_
    refine xs_call (lv2 := [(0, _), (1, _), (2, _)]) r_286_1133 rfl rfl (by decide) (xcan_0 rfl rfl (by first | assumption | exact o0 | exact m9) (by rfl)) rfl (m_190 m9 g9 hG (by omega) (fun f2 x2 y2 => ?_))
    refine xK_v rfl ?_
    refine xs_f 1138 (lv2 := [(7, _), (6, _), (0, _), (1, _), (2, _), (3, _), (4, _), (5, _)]) r_286_1136 rfl ?_
    refine xs_f 1139 r_286_1138 rfl ?_
    refine xs_call (lv2 := [(0, _)]) r_286_1139 rfl rfl (by decide) (xcan_0 rfl rfl x2 (by rfl)) rfl ?_
    refine xs_f 1 r_149_0 rfl ?_
    refine xs_get 4 r_149_1 rfl rfl x2 (by rfl) ?_
    refine xs_ret r_149_4 rfl ?_
    refine xK_v rfl ?_
    refine xs_f 1144 r_286_1142 rfl ?_
    refine xs_if 1149 1147 r_286_1144 rfl (fun hth => ?_) (fun hth => ?_)
    · refine xs_f 1151 r_286_1149 rfl ?_
      refine xs_f 1173 r_286_1151 rfl ?_
      refine xs_f 2897 r_286_1173 rfl ?_
      exact xP_lv [(0, .ref 12), (1, .ref 32), (2, .ref 809), (3, .ref 818), (4, .ref 819), (5, .int (nI i))] rfl ⟨rfl, rfl, rfl, rfl, rfl, rfl, trivial⟩ (k _ (hP.q (h2 := (f2, _)) (fun x h1 h2 h3 h4 => (y2 x (by omega)).trans (e9 x h2 h4)) ⟨_, _, _, x2⟩ ⟨_, O9.fr (y2 _ (by omega))⟩ (D9.fr (y2 _ (by omega))) ⟨_, _, _, c9.fr (fun x h1 h2 => y2 x (by omega))⟩ B9))
    · exact absurd (by first | exact congrArg nI z9 | rfl) hth

theorem lw_17_1 {S : XSc} {d : Nat} {h : XH} {Q : XO → XH → Prop} {i c : Nat} (hi : i + 7 ≤ S.1) (hL : S.1 ≤ 3584) (hc : c ≤ 511) {H Sv : Nat → Int32} {pos ch : Nat} {sv : Bool} {K : Nat} {ea fa : Int32} {G : Nat → Int32} {tn : Nat} {Bu : Nat → Int32} {on : Nat} {Le : Nat → Int32} (hP : LwP h c H Sv pos ch sv K ea fa G tn Bu on Le) {mn : Nat → Nat} {np no : Nat} {nn : Int32} {N sc : Nat} {ho : Int32} {TS TH tr : Nat → Int32} {pl : Nat → XPl} {q : Nat → XQu} {s : Nat → Nat} {R : Nat → Nat → Nat} (hB : BdP h.1 33 np no nn sc ho TS TH tr pl q s R) (hr : RG G mn np no nn sc ho tr pl q) (hk : OKc np no nn N sc ho TS TH pl q) (hN : N ≤ K) (hs : sc ≤ K) (hv : (R_has np (gQ G mn) no (S.2 (i + 1)) (S.2 (i + 2))).2 = 1) (k : ∀ h2, LwI h2 (c + 1) → xP S (d + 14) 286 2897 [(0, .ref 12), (1, .ref 32), (2, .ref 809), (3, .ref 818), (4, .ref 819), (5, .int (nI i))] [] h2 Q) : xP S (d + 14) 286 1101 [(0, .ref 12), (1, .ref 32), (2, .ref 809), (3, .ref 818), (4, .ref 819), (5, .int (nI i))] [] h Q := by
  obtain ⟨hX, hS, ⟨W, lo, hi2, hC⟩, ⟨p0, cc0, nu0, hT⟩, hZ, ⟨B, Mo, Pa, th, sp, wr, hM⟩, ⟨w0, hO⟩, hD, ⟨hK, h8, ht, hon⟩, hcn⟩ := id hP
  obtain ⟨o0, hHi, hSv, G8, hG8⟩ := id hX
  obtain ⟨hG, ⟨r2, r3, r4⟩, r5, r6, r7, r8⟩ := id hr
  obtain ⟨m0, g0, b0, H0, S0, U0, L0, M0, A0⟩ := id hM
  have np5 := hG.1.2
  have no6 := hG.2.1.2
  have mm5 : ∀ i, i < no → (gQ G mn i).2.2.1 ≤ 5 := fun i hi => (hG.2.2 i (by omega)).2
  have hR : (R_has np q no (S.2 (i + 1)) (S.2 (i + 2))) = (R_has np (gQ G mn) no (S.2 (i + 1)) (S.2 (i + 2))) := R_has_cong r7 np _ _
  have hv9 : (R_has np q no (S.2 (i + 1)) (S.2 (i + 2))).2 = 1 := by rw [hR]; exact hv
  refine xs_f 1102 r_286_1101 rfl ?_
  refine xs_f 1103 r_286_1102 rfl ?_
  refine xs_f 1105 r_286_1103 rfl ?_
  refine xs_f 1106 r_286_1105 rfl ?_
  refine xs_f 1107 r_286_1106 rfl ?_
  refine xs_ald 1108 0 r_286_1107 (fun _ _ => rfl) rfl rfl rfl (j := (i + 1)) (nI_addE rfl (nI_k 1)) (xarr_r rfl rfl) rfl (by show _ < S.1; omega) (by show S.1 ≤ 65536; omega) rfl ?_
  refine xs_f 1109 r_286_1108 rfl ?_
  refine xs_f 1111 r_286_1109 rfl ?_
  refine xs_f 1112 r_286_1111 rfl ?_
  refine xs_f 1113 r_286_1112 rfl ?_
  refine xs_ald 1114 0 r_286_1113 (fun _ _ => rfl) rfl rfl rfl (j := (i + 2)) (nI_addE rfl (nI_k 2)) (xarr_r rfl rfl) rfl (by show _ < S.1; omega) (by show S.1 ≤ 65536; omega) rfl ?_
  refine xs_f 1115 r_286_1114 rfl ?_
  refine xs_call (lv2 := [(0, _), (1, _), (2, _), (3, _)]) r_286_1115 rfl rfl (by decide) (xcan_3 rfl rfl) rfl ?_
  refine xs_f 1 r_256_0 rfl ?_
  refine xs_f 2 r_256_1 rfl ?_
  refine xs_f 3 r_256_2 rfl ?_
  refine xs_f 4 r_256_3 rfl ?_
  refine xs_f 5 r_256_4 rfl ?_
  refine xs_call (lv2 := [(0, _), (1, _), (2, _)]) r_256_5 rfl rfl (by decide) (xcan_0 rfl rfl (by first | assumption | exact xup_s | exact o0 | exact m9 | (refine (xup_n (by omega)).trans ?_; first | assumption | exact xup_s | exact o0 | exact m9) | (refine (xup_n (by omega)).trans ((xup_n (by omega)).trans ?_); first | assumption | exact xup_s | exact o0 | exact m9) | (refine (xup_n (by omega)).trans ((xup_n (by omega)).trans ((xup_n (by omega)).trans ?_)); first | assumption | exact xup_s | exact o0 | exact m9)) (by rfl)) rfl (e_101 o0 hB (by omega) (fun z9 => ?_) (fun z9 => ?_) (fun z9 => ?_))
  · rw [hR] at z9
    have q9 : ((R_has np q no (S.2 (i + 1)) (S.2 (i + 2))) : XR).2 = (R_has np (gQ G mn) no (S.2 (i + 1)) (S.2 (i + 2))).2 := congrArg Prod.snd hR
    have c8 := hC
    have e8 : ∀ x, (x < 794 ∨ 804 ≤ x) → h.1 x = h.1 x := fun _ _ => rfl
    rw [hv9]
    refine xK_v rfl ?_
    refine xs_f 11 r_256_8 rfl ?_
    refine xs_f 12 r_256_11 rfl ?_
    refine xs_f 16 r_256_12 rfl ?_
    refine xs_astL 17 r_256_16 (fun _ _ => rfl) rfl rfl rfl (j := 0) (nI_k 0) hO (by omega) (fun f1 O9 y1 => ?_)
    have z1 : ∀ x, x ≠ 818 → (x < 794 ∨ 804 ≤ x) → f1 x = h.1 x := fun x h1 h2 => (y1 x (by omega)).trans (e8 x h2)
    have e9 := z1
    have c9 := c8.fr (g := f1) (fun x h1 h2 => y1 x (by omega))
    have m9 := (e9 809 (by omega) (by omega)).trans m0
    have g9 := g0.fr (e9 _ (by omega) (by omega))
    have D9 := hD.fr (e9 _ (by omega) (by omega))
    have B9 : h.2 = h.2 ∨ h.2 = (xbump h).2 := Or.inl rfl
    refine xs_f 28 r_256_17 rfl ?_
    refine xs_f 29 r_256_28 rfl ?_
    refine xs_ret r_256_29 rfl ?_
    refine xK_v rfl ?_
    refine xs_f 1120 (lv2 := [(6, _), (0, _), (1, _), (2, _), (3, _), (4, _), (5, _)]) r_286_1118 rfl ?_
    refine xs_f 1121 r_286_1120 rfl ?_
    refine xs_f 1122 r_286_1121 rfl ?_
    refine xs_f 1124 r_286_1122 rfl ?_
    refine xs_f 1125 r_286_1124 rfl ?_
    refine xs_f 1126 r_286_1125 rfl ?_
    refine xs_ald 1127 0 r_286_1126 (fun _ _ => rfl) rfl rfl rfl (j := (i + 1)) (nI_addE rfl (nI_k 1)) (xarr_r rfl rfl) rfl (by show _ < S.1; omega) (by show S.1 ≤ 65536; omega) rfl ?_
    refine xs_f 1128 r_286_1127 rfl ?_
    refine xs_f 1130 r_286_1128 rfl ?_
    refine xs_f 1131 r_286_1130 rfl ?_
    refine xs_f 1132 r_286_1131 rfl ?_
    refine xs_ald 1133 0 r_286_1132 (fun _ _ => rfl) rfl rfl rfl (j := (i + 2)) (nI_addE rfl (nI_k 2)) (xarr_r rfl rfl) rfl (by show _ < S.1; omega) (by show S.1 ≤ 65536; omega) rfl ?_
    refine xs_call (lv2 := [(0, _), (1, _), (2, _)]) r_286_1133 rfl rfl (by decide) (xcan_0 rfl rfl (by first | assumption | exact o0 | exact m9) (by rfl)) rfl (m_190 m9 g9 hG (by omega) (fun f2 x2 y2 => ?_))
    rw [hv]
    refine xK_v rfl ?_
    refine xs_f 1138 (lv2 := [(7, _), (6, _), (0, _), (1, _), (2, _), (3, _), (4, _), (5, _)]) r_286_1136 rfl ?_
    refine xs_f 1139 r_286_1138 rfl ?_
    refine xs_call (lv2 := [(0, _)]) r_286_1139 rfl rfl (by decide) (xcan_0 rfl rfl x2 (by rfl)) rfl ?_
    refine xs_f 1 r_149_0 rfl ?_
    refine xs_get 4 r_149_1 rfl rfl x2 (by rfl) ?_
    refine xs_ret r_149_4 rfl ?_
    refine xK_v rfl ?_
    refine xs_f 1144 r_286_1142 rfl ?_
    refine xs_if 1149 1147 r_286_1144 rfl (fun hth => ?_) (fun hth => ?_)
    · refine xs_f 1151 r_286_1149 rfl ?_
      refine xs_f 1154 r_286_1151 rfl ?_
      refine xs_f 1155 r_286_1154 rfl ?_
      refine xs_f 1156 r_286_1155 rfl ?_
      refine xs_aldL 1157 r_286_1156 (fun _ _ => rfl) rfl rfl rfl (j := 0) (nI_k 0) (O9.fr (y2 _ (by omega))) (by omega) ?_
      rw [xw_s]
      refine xs_f 1159 r_286_1157 rfl ?_
      refine xs_f 1162 r_286_1159 rfl ?_
      refine xs_f 1163 r_286_1162 rfl ?_
      refine xs_f 1167 r_286_1163 rfl ?_
      refine xs_f 1168 r_286_1167 rfl ?_
      refine xs_f 1173 r_286_1168 (by rw [lg_cmp_r]; rfl) ?_
      refine xs_f 2897 r_286_1173 rfl ?_
      exact xP_lv [(0, .ref 12), (1, .ref 32), (2, .ref 809), (3, .ref 818), (4, .ref 819), (5, .int (nI i))] rfl ⟨rfl, rfl, rfl, rfl, rfl, rfl, trivial⟩ (k _ (hP.q (h2 := (f2, _)) (fun x h1 h2 h3 h4 => (y2 x (by omega)).trans (e9 x h2 h4)) ⟨_, _, _, x2⟩ ⟨_, O9.fr (y2 _ (by omega))⟩ (D9.fr (y2 _ (by omega))) ⟨_, _, _, c9.fr (fun x h1 h2 => y2 x (by omega))⟩ B9))
    · exact absurd (by first | exact congrArg nI z9 | rfl) hth
  · rw [hR] at z9
    have c9 := hC
    have O9 := hO
    have D9 := hD
    have e9 : ∀ x, x ≠ 818 → (x < 794 ∨ 804 ≤ x) → (xbump h).1 x = h.1 x := fun _ _ _ => rfl
    have m9 := (e9 809 (by omega) (by omega)).trans m0
    have g9 := g0.fr (e9 _ (by omega) (by omega))
    have B9 : (xbump h).2 = h.2 ∨ (xbump h).2 = (xbump h).2 := Or.inr rfl
    refine xK_c (lv2 := [(0, _), (1, _), (2, _), (3, _)]) rfl rfl rfl rfl ?_
    refine xs_f 23 r_256_22 rfl ?_
    refine xs_ret r_256_23 rfl ?_
    refine xK_v rfl ?_
    refine xs_f 1120 (lv2 := [(6, _), (0, _), (1, _), (2, _), (3, _), (4, _), (5, _)]) r_286_1118 rfl ?_
    refine xs_f 1121 r_286_1120 rfl ?_
    refine xs_f 1122 r_286_1121 rfl ?_
    refine xs_f 1124 r_286_1122 rfl ?_
    refine xs_f 1125 r_286_1124 rfl ?_
    refine xs_f 1126 r_286_1125 rfl ?_
    refine xs_ald 1127 0 r_286_1126 (fun _ _ => rfl) rfl rfl rfl (j := (i + 1)) (nI_addE rfl (nI_k 1)) (xarr_r rfl rfl) rfl (by show _ < S.1; omega) (by show S.1 ≤ 65536; omega) rfl ?_
    refine xs_f 1128 r_286_1127 rfl ?_
    refine xs_f 1130 r_286_1128 rfl ?_
    refine xs_f 1131 r_286_1130 rfl ?_
    refine xs_f 1132 r_286_1131 rfl ?_
    refine xs_ald 1133 0 r_286_1132 (fun _ _ => rfl) rfl rfl rfl (j := (i + 2)) (nI_addE rfl (nI_k 2)) (xarr_r rfl rfl) rfl (by show _ < S.1; omega) (by show S.1 ≤ 65536; omega) rfl ?_
    refine xs_call (lv2 := [(0, _), (1, _), (2, _)]) r_286_1133 rfl rfl (by decide) (xcan_0 rfl rfl (by first | assumption | exact o0 | exact m9) (by rfl)) rfl (m_190 m9 g9 hG (by omega) (fun f2 x2 y2 => ?_))
    refine xK_v rfl ?_
    refine xs_f 1138 (lv2 := [(7, _), (6, _), (0, _), (1, _), (2, _), (3, _), (4, _), (5, _)]) r_286_1136 rfl ?_
    refine xs_f 1139 r_286_1138 rfl ?_
    refine xs_call (lv2 := [(0, _)]) r_286_1139 rfl rfl (by decide) (xcan_0 rfl rfl x2 (by rfl)) rfl ?_
    refine xs_f 1 r_149_0 rfl ?_
    refine xs_get 4 r_149_1 rfl rfl x2 (by rfl) ?_
    refine xs_ret r_149_4 rfl ?_
    refine xK_v rfl ?_
    refine xs_f 1144 r_286_1142 rfl ?_
    refine xs_if 1149 1147 r_286_1144 rfl (fun hth => ?_) (fun hth => ?_)
    · refine xs_f 1151 r_286_1149 rfl ?_
      refine xs_f 1173 r_286_1151 rfl ?_
      refine xs_f 2897 r_286_1173 rfl ?_
      exact xP_lv [(0, .ref 12), (1, .ref 32), (2, .ref 809), (3, .ref 818), (4, .ref 819), (5, .int (nI i))] rfl ⟨rfl, rfl, rfl, rfl, rfl, rfl, trivial⟩ (k _ (hP.q (h2 := (f2, _)) (fun x h1 h2 h3 h4 => (y2 x (by omega)).trans (e9 x h2 h4)) ⟨_, _, _, x2⟩ ⟨_, O9.fr (y2 _ (by omega))⟩ (D9.fr (y2 _ (by omega))) ⟨_, _, _, c9.fr (fun x h1 h2 => y2 x (by omega))⟩ B9))
    · exact absurd (by first | exact congrArg nI z9 | rfl) hth
  · rw [hR] at z9
    have c9 := hC
    have O9 := hO
    have D9 := hD
    have e9 : ∀ x, x ≠ 818 → (x < 794 ∨ 804 ≤ x) → (xbump h).1 x = h.1 x := fun _ _ _ => rfl
    have m9 := (e9 809 (by omega) (by omega)).trans m0
    have g9 := g0.fr (e9 _ (by omega) (by omega))
    have B9 : (xbump h).2 = h.2 ∨ (xbump h).2 = (xbump h).2 := Or.inr rfl
    refine xK_c (lv2 := [(0, _), (1, _), (2, _), (3, _)]) rfl rfl rfl rfl ?_
    refine xs_f 27 r_256_26 rfl ?_
    refine xs_ret r_256_27 rfl ?_
    refine xK_v rfl ?_
    refine xs_f 1120 (lv2 := [(6, _), (0, _), (1, _), (2, _), (3, _), (4, _), (5, _)]) r_286_1118 rfl ?_
    refine xs_f 1121 r_286_1120 rfl ?_
    refine xs_f 1122 r_286_1121 rfl ?_
    refine xs_f 1124 r_286_1122 rfl ?_
    refine xs_f 1125 r_286_1124 rfl ?_
    refine xs_f 1126 r_286_1125 rfl ?_
    refine xs_ald 1127 0 r_286_1126 (fun _ _ => rfl) rfl rfl rfl (j := (i + 1)) (nI_addE rfl (nI_k 1)) (xarr_r rfl rfl) rfl (by show _ < S.1; omega) (by show S.1 ≤ 65536; omega) rfl ?_
    refine xs_f 1128 r_286_1127 rfl ?_
    refine xs_f 1130 r_286_1128 rfl ?_
    refine xs_f 1131 r_286_1130 rfl ?_
    refine xs_f 1132 r_286_1131 rfl ?_
    refine xs_ald 1133 0 r_286_1132 (fun _ _ => rfl) rfl rfl rfl (j := (i + 2)) (nI_addE rfl (nI_k 2)) (xarr_r rfl rfl) rfl (by show _ < S.1; omega) (by show S.1 ≤ 65536; omega) rfl ?_
    refine xs_call (lv2 := [(0, _), (1, _), (2, _)]) r_286_1133 rfl rfl (by decide) (xcan_0 rfl rfl (by first | assumption | exact o0 | exact m9) (by rfl)) rfl (m_190 m9 g9 hG (by omega) (fun f2 x2 y2 => ?_))
    refine xK_v rfl ?_
    refine xs_f 1138 (lv2 := [(7, _), (6, _), (0, _), (1, _), (2, _), (3, _), (4, _), (5, _)]) r_286_1136 rfl ?_
    refine xs_f 1139 r_286_1138 rfl ?_
    refine xs_call (lv2 := [(0, _)]) r_286_1139 rfl rfl (by decide) (xcan_0 rfl rfl x2 (by rfl)) rfl ?_
    refine xs_f 1 r_149_0 rfl ?_
    refine xs_get 4 r_149_1 rfl rfl x2 (by rfl) ?_
    refine xs_ret r_149_4 rfl ?_
    refine xK_v rfl ?_
    refine xs_f 1144 r_286_1142 rfl ?_
    refine xs_if 1149 1147 r_286_1144 rfl (fun hth => ?_) (fun hth => ?_)
    · refine xs_f 1151 r_286_1149 rfl ?_
      refine xs_f 1173 r_286_1151 rfl ?_
      refine xs_f 2897 r_286_1173 rfl ?_
      exact xP_lv [(0, .ref 12), (1, .ref 32), (2, .ref 809), (3, .ref 818), (4, .ref 819), (5, .int (nI i))] rfl ⟨rfl, rfl, rfl, rfl, rfl, rfl, trivial⟩ (k _ (hP.q (h2 := (f2, _)) (fun x h1 h2 h3 h4 => (y2 x (by omega)).trans (e9 x h2 h4)) ⟨_, _, _, x2⟩ ⟨_, O9.fr (y2 _ (by omega))⟩ (D9.fr (y2 _ (by omega))) ⟨_, _, _, c9.fr (fun x h1 h2 => y2 x (by omega))⟩ B9))
    · exact absurd (by first | exact congrArg nI z9 | rfl) hth

theorem lw_17 {S : XSc} {d : Nat} {h : XH} {Q : XO → XH → Prop} {i c : Nat} (hi : i + 7 ≤ S.1) (hL : S.1 ≤ 3584) (hc : c ≤ 511) (hI : LwI h c) (k : ∀ h2, LwI h2 (c + 1) → xP S (d + 14) 286 2897 [(0, .ref 12), (1, .ref 32), (2, .ref 809), (3, .ref 818), (4, .ref 819), (5, .int (nI i))] [] h2 Q) : xP S (d + 14) 286 1101 [(0, .ref 12), (1, .ref 32), (2, .ref 809), (3, .ref 818), (4, .ref 819), (5, .int (nI i))] [] h Q := by
  obtain ⟨H, Sv, pos, ch, sv, K, ea, fa, G, tn, Bu, on, Le, hP⟩ := hI
  obtain ⟨mn, np, no, nn, N, sc, ho, TS, TH, tr, pl, q, s, R, hB, hr, hk, hN, hs⟩ := id hP.2.1
  have hv : (R_has np (gQ G mn) no (S.2 (i + 1)) (S.2 (i + 2))).2 = 0 ∨ (R_has np (gQ G mn) no (S.2 (i + 1)) (S.2 (i + 2))).2 = 1 := by unfold R_has; (repeat' split) <;> first | exact bI_nn _ | exact Or.inl rfl
  rcases hv with hv | hv
  · exact lw_17_0 hi hL hc hP hB hr hk hN hs hv k
  · exact lw_17_1 hi hL hc hP hB hr hk hN hs hv k
theorem lw_18 {S : XSc} {d : Nat} {h : XH} {Q : XO → XH → Prop} {i c : Nat} (hi : i + 7 ≤ S.1) (hL : S.1 ≤ 3584) (hc : c ≤ 511) (hI : LwI h c) (k : ∀ h2, LwI h2 (c + 1) → xP S (d + 14) 286 2897 [(0, .ref 12), (1, .ref 32), (2, .ref 809), (3, .ref 818), (4, .ref 819), (5, .int (nI i))] [] h2 Q) : xP S (d + 14) 286 1176 [(0, .ref 12), (1, .ref 32), (2, .ref 809), (3, .ref 818), (4, .ref 819), (5, .int (nI i))] [] h Q := by
  obtain ⟨H, Sv, pos, ch, sv, K, ea, fa, G, tn, Bu, on, Le, hP⟩ := hI
  obtain ⟨hX, hS, ⟨W, lo, hi2, hC⟩, ⟨p0, cc0, nu0, hT⟩, hZ, ⟨B, Mo, Pa, th, sp, wr, hM⟩, ⟨w0, hO⟩, hD, ⟨hK, h8, ht, hon⟩, hcn⟩ := id hP
  obtain ⟨o0, hHi, hSv, G8, hG8⟩ := id hX
  obtain ⟨mn, np, no, nn, N, sc, ho, TS, TH, tr, pl, q, s, R, hB, hr, hk, hN, hs⟩ := id hS
  obtain ⟨hG, ⟨r2, r3, r4⟩, r5, r6, r7, r8⟩ := id hr
  obtain ⟨m0, g0, b0, H0, S0, U0, L0, M0, A0⟩ := id hM
  have np5 := hG.1.2
  have no6 := hG.2.1.2
  have mm5 : ∀ i, i < no → (gQ G mn i).2.2.1 ≤ 5 := fun i hi => (hG.2.2 i (by omega)).2
  have hR : (R_fld np q no (S.2 (i + 1)) (S.2 (i + 2)) (fun e => e.2.1)) = (R_fld np (gQ G mn) no (S.2 (i + 1)) (S.2 (i + 2)) (fun e => e.2.1)) := R_fld_cong r7 np _ _ _
  refine xs_f 1177 r_286_1176 rfl ?_
  refine xs_f 1178 r_286_1177 rfl ?_
  refine xs_f 1180 r_286_1178 rfl ?_
  refine xs_f 1181 r_286_1180 rfl ?_
  refine xs_f 1182 r_286_1181 rfl ?_
  refine xs_ald 1183 0 r_286_1182 (fun _ _ => rfl) rfl rfl rfl (j := (i + 1)) (nI_addE rfl (nI_k 1)) (xarr_r rfl rfl) rfl (by show _ < S.1; omega) (by show S.1 ≤ 65536; omega) rfl ?_
  refine xs_f 1184 r_286_1183 rfl ?_
  refine xs_f 1186 r_286_1184 rfl ?_
  refine xs_f 1187 r_286_1186 rfl ?_
  refine xs_f 1188 r_286_1187 rfl ?_
  refine xs_ald 1189 0 r_286_1188 (fun _ _ => rfl) rfl rfl rfl (j := (i + 2)) (nI_addE rfl (nI_k 2)) (xarr_r rfl rfl) rfl (by show _ < S.1; omega) (by show S.1 ≤ 65536; omega) rfl ?_
  refine xs_f 1190 r_286_1189 rfl ?_
  refine xs_call (lv2 := [(0, _), (1, _), (2, _), (3, _)]) r_286_1190 rfl rfl (by decide) (xcan_3 rfl rfl) rfl ?_
  refine xs_f 1 r_257_0 rfl ?_
  refine xs_f 2 r_257_1 rfl ?_
  refine xs_f 3 r_257_2 rfl ?_
  refine xs_f 4 r_257_3 rfl ?_
  refine xs_f 5 r_257_4 rfl ?_
  refine xs_call (lv2 := [(0, _), (1, _), (2, _)]) r_257_5 rfl rfl (by decide) (xcan_0 rfl rfl (by first | assumption | exact xup_s | exact o0 | exact m9 | (refine (xup_n (by omega)).trans ?_; first | assumption | exact xup_s | exact o0 | exact m9) | (refine (xup_n (by omega)).trans ((xup_n (by omega)).trans ?_); first | assumption | exact xup_s | exact o0 | exact m9) | (refine (xup_n (by omega)).trans ((xup_n (by omega)).trans ((xup_n (by omega)).trans ?_)); first | assumption | exact xup_s | exact o0 | exact m9)) (by rfl)) rfl (e_102 o0 hB (by omega) (fun z9 => ?_) (fun z9 => ?_) (fun z9 => ?_))
  · rw [hR] at z9
    have q9 : ((R_fld np q no (S.2 (i + 1)) (S.2 (i + 2)) (fun e => e.2.1)) : XR).2 = (R_fld np (gQ G mn) no (S.2 (i + 1)) (S.2 (i + 2)) (fun e => e.2.1)).2 := congrArg Prod.snd hR
    have c8 := hC
    have e8 : ∀ x, (x < 794 ∨ 804 ≤ x) → h.1 x = h.1 x := fun _ _ => rfl
    refine xK_v rfl ?_
    refine xs_f 9 r_257_8 rfl ?_
    refine xs_astL 10 r_257_9 (fun _ _ => rfl) rfl rfl rfl (j := 0) (nI_k 0) hO (by omega) (fun f1 O9 y1 => ?_)
    have z1 : ∀ x, x ≠ 818 → (x < 794 ∨ 804 ≤ x) → f1 x = h.1 x := fun x h1 h2 => (y1 x (by omega)).trans (e8 x h2)
    have e9 := z1
    have c9 := c8.fr (g := f1) (fun x h1 h2 => y1 x (by omega))
    have m9 := (e9 809 (by omega) (by omega)).trans m0
    have g9 := g0.fr (e9 _ (by omega) (by omega))
    have D9 := hD.fr (e9 _ (by omega) (by omega))
    have B9 : h.2 = h.2 ∨ h.2 = (xbump h).2 := Or.inl rfl
    refine xs_f 21 r_257_10 rfl ?_
    refine xs_f 22 r_257_21 rfl ?_
    refine xs_ret r_257_22 rfl ?_
    refine xK_v rfl ?_
    refine xs_f 1195 (lv2 := [(6, _), (0, _), (1, _), (2, _), (3, _), (4, _), (5, _)]) r_286_1193 rfl ?_
    refine xs_f 1196 r_286_1195 rfl ?_
    refine xs_f 1197 r_286_1196 rfl ?_
    refine xs_f 1199 r_286_1197 rfl ?_
    refine xs_f 1200 r_286_1199 rfl ?_
    refine xs_f 1201 r_286_1200 rfl ?_
    refine xs_ald 1202 0 r_286_1201 (fun _ _ => rfl) rfl rfl rfl (j := (i + 1)) (nI_addE rfl (nI_k 1)) (xarr_r rfl rfl) rfl (by show _ < S.1; omega) (by show S.1 ≤ 65536; omega) rfl ?_
    refine xs_f 1203 r_286_1202 rfl ?_
    refine xs_f 1205 r_286_1203 rfl ?_
    refine xs_f 1206 r_286_1205 rfl ?_
    refine xs_f 1207 r_286_1206 rfl ?_
    refine xs_ald 1208 0 r_286_1207 (fun _ _ => rfl) rfl rfl rfl (j := (i + 2)) (nI_addE rfl (nI_k 2)) (xarr_r rfl rfl) rfl (by show _ < S.1; omega) (by show S.1 ≤ 65536; omega) rfl ?_
    refine xs_call (lv2 := [(0, _), (1, _), (2, _)]) r_286_1208 rfl rfl (by decide) (xcan_0 rfl rfl (by first | assumption | exact o0 | exact m9) (by rfl)) rfl (m_193 m9 g9 hG (by omega) (fun f2 x2 y2 => ?_))
    refine xK_v rfl ?_
    refine xs_f 1213 (lv2 := [(7, _), (6, _), (0, _), (1, _), (2, _), (3, _), (4, _), (5, _)]) r_286_1211 rfl ?_
    refine xs_f 1214 r_286_1213 rfl ?_
    refine xs_call (lv2 := [(0, _)]) r_286_1214 rfl rfl (by decide) (xcan_0 rfl rfl x2 (by rfl)) rfl ?_
    refine xs_f 1 r_149_0 rfl ?_
    refine xs_get 4 r_149_1 rfl rfl x2 (by rfl) ?_
    refine xs_ret r_149_4 rfl ?_
    refine xK_v rfl ?_
    refine xs_f 1219 r_286_1217 rfl ?_
    refine xs_if 1224 1222 r_286_1219 rfl (fun hth => ?_) (fun hth => ?_)
    · refine xs_f 1226 r_286_1224 rfl ?_
      refine xs_f 1229 r_286_1226 rfl ?_
      refine xs_f 1230 r_286_1229 rfl ?_
      refine xs_f 1231 r_286_1230 rfl ?_
      refine xs_aldL 1232 r_286_1231 (fun _ _ => rfl) rfl rfl rfl (j := 0) (nI_k 0) (O9.fr (y2 _ (by omega))) (by omega) ?_
      rw [xw_s]
      refine xs_f 1234 r_286_1232 rfl ?_
      refine xs_f 1235 r_286_1234 rfl ?_
      refine xs_f 1236 r_286_1235 rfl ?_
      refine xs_if 1241 1239 r_286_1236 rfl (fun hl => ?_) (fun hl => ?_)
      · refine xs_f 2897 r_286_1241 rfl ?_
        exact xP_lv [(0, .ref 12), (1, .ref 32), (2, .ref 809), (3, .ref 818), (4, .ref 819), (5, .int (nI i))] rfl ⟨rfl, rfl, rfl, rfl, rfl, rfl, trivial⟩ (k _ (hP.q (h2 := (f2, _)) (fun x h1 h2 h3 h4 => (y2 x (by omega)).trans (e9 x h2 h4)) ⟨_, _, _, x2⟩ ⟨_, O9.fr (y2 _ (by omega))⟩ (D9.fr (y2 _ (by omega))) ⟨_, _, _, c9.fr (fun x h1 h2 => y2 x (by omega))⟩ B9))
      · exact absurd (by rw [q9]; exact lg_cmp_r _) hl
    · exact absurd (by first | exact congrArg nI z9 | rfl) hth
  · rw [hR] at z9
    have c9 := hC
    have O9 := hO
    have D9 := hD
    have e9 : ∀ x, x ≠ 818 → (x < 794 ∨ 804 ≤ x) → (xbump h).1 x = h.1 x := fun _ _ _ => rfl
    have m9 := (e9 809 (by omega) (by omega)).trans m0
    have g9 := g0.fr (e9 _ (by omega) (by omega))
    have B9 : (xbump h).2 = h.2 ∨ (xbump h).2 = (xbump h).2 := Or.inr rfl
    refine xK_c (lv2 := [(0, _), (1, _), (2, _), (3, _)]) rfl rfl rfl rfl ?_
    refine xs_f 16 r_257_15 rfl ?_
    refine xs_ret r_257_16 rfl ?_
    refine xK_v rfl ?_
    refine xs_f 1195 (lv2 := [(6, _), (0, _), (1, _), (2, _), (3, _), (4, _), (5, _)]) r_286_1193 rfl ?_
    refine xs_f 1196 r_286_1195 rfl ?_
    refine xs_f 1197 r_286_1196 rfl ?_
    refine xs_f 1199 r_286_1197 rfl ?_
    refine xs_f 1200 r_286_1199 rfl ?_
    refine xs_f 1201 r_286_1200 rfl ?_
    refine xs_ald 1202 0 r_286_1201 (fun _ _ => rfl) rfl rfl rfl (j := (i + 1)) (nI_addE rfl (nI_k 1)) (xarr_r rfl rfl) rfl (by show _ < S.1; omega) (by show S.1 ≤ 65536; omega) rfl ?_
    refine xs_f 1203 r_286_1202 rfl ?_
    refine xs_f 1205 r_286_1203 rfl ?_
    refine xs_f 1206 r_286_1205 rfl ?_
    refine xs_f 1207 r_286_1206 rfl ?_
    refine xs_ald 1208 0 r_286_1207 (fun _ _ => rfl) rfl rfl rfl (j := (i + 2)) (nI_addE rfl (nI_k 2)) (xarr_r rfl rfl) rfl (by show _ < S.1; omega) (by show S.1 ≤ 65536; omega) rfl ?_
    refine xs_call (lv2 := [(0, _), (1, _), (2, _)]) r_286_1208 rfl rfl (by decide) (xcan_0 rfl rfl (by first | assumption | exact o0 | exact m9) (by rfl)) rfl (m_193 m9 g9 hG (by omega) (fun f2 x2 y2 => ?_))
    refine xK_v rfl ?_
    refine xs_f 1213 (lv2 := [(7, _), (6, _), (0, _), (1, _), (2, _), (3, _), (4, _), (5, _)]) r_286_1211 rfl ?_
    refine xs_f 1214 r_286_1213 rfl ?_
    refine xs_call (lv2 := [(0, _)]) r_286_1214 rfl rfl (by decide) (xcan_0 rfl rfl x2 (by rfl)) rfl ?_
    refine xs_f 1 r_149_0 rfl ?_
    refine xs_get 4 r_149_1 rfl rfl x2 (by rfl) ?_
    refine xs_ret r_149_4 rfl ?_
    refine xK_v rfl ?_
    refine xs_f 1219 r_286_1217 rfl ?_
    refine xs_if 1224 1222 r_286_1219 rfl (fun hth => ?_) (fun hth => ?_)
    · refine xs_f 1226 r_286_1224 rfl ?_
      refine xs_f 1241 r_286_1226 rfl ?_
      refine xs_f 2897 r_286_1241 rfl ?_
      exact xP_lv [(0, .ref 12), (1, .ref 32), (2, .ref 809), (3, .ref 818), (4, .ref 819), (5, .int (nI i))] rfl ⟨rfl, rfl, rfl, rfl, rfl, rfl, trivial⟩ (k _ (hP.q (h2 := (f2, _)) (fun x h1 h2 h3 h4 => (y2 x (by omega)).trans (e9 x h2 h4)) ⟨_, _, _, x2⟩ ⟨_, O9.fr (y2 _ (by omega))⟩ (D9.fr (y2 _ (by omega))) ⟨_, _, _, c9.fr (fun x h1 h2 => y2 x (by omega))⟩ B9))
    · exact absurd (by first | exact congrArg nI z9 | rfl) hth
  · rw [hR] at z9
    have c9 := hC
    have O9 := hO
    have D9 := hD
    have e9 : ∀ x, x ≠ 818 → (x < 794 ∨ 804 ≤ x) → (xbump h).1 x = h.1 x := fun _ _ _ => rfl
    have m9 := (e9 809 (by omega) (by omega)).trans m0
    have g9 := g0.fr (e9 _ (by omega) (by omega))
    have B9 : (xbump h).2 = h.2 ∨ (xbump h).2 = (xbump h).2 := Or.inr rfl
    refine xK_c (lv2 := [(0, _), (1, _), (2, _), (3, _)]) rfl rfl rfl rfl ?_
    refine xs_f 20 r_257_19 rfl ?_
    refine xs_ret r_257_20 rfl ?_
    refine xK_v rfl ?_
    refine xs_f 1195 (lv2 := [(6, _), (0, _), (1, _), (2, _), (3, _), (4, _), (5, _)]) r_286_1193 rfl ?_
    refine xs_f 1196 r_286_1195 rfl ?_
    refine xs_f 1197 r_286_1196 rfl ?_
    refine xs_f 1199 r_286_1197 rfl ?_
    refine xs_f 1200 r_286_1199 rfl ?_
    refine xs_f 1201 r_286_1200 rfl ?_
    refine xs_ald 1202 0 r_286_1201 (fun _ _ => rfl) rfl rfl rfl (j := (i + 1)) (nI_addE rfl (nI_k 1)) (xarr_r rfl rfl) rfl (by show _ < S.1; omega) (by show S.1 ≤ 65536; omega) rfl ?_
    refine xs_f 1203 r_286_1202 rfl ?_
    refine xs_f 1205 r_286_1203 rfl ?_
    refine xs_f 1206 r_286_1205 rfl ?_
    refine xs_f 1207 r_286_1206 rfl ?_
    refine xs_ald 1208 0 r_286_1207 (fun _ _ => rfl) rfl rfl rfl (j := (i + 2)) (nI_addE rfl (nI_k 2)) (xarr_r rfl rfl) rfl (by show _ < S.1; omega) (by show S.1 ≤ 65536; omega) rfl ?_
    refine xs_call (lv2 := [(0, _), (1, _), (2, _)]) r_286_1208 rfl rfl (by decide) (xcan_0 rfl rfl (by first | assumption | exact o0 | exact m9) (by rfl)) rfl (m_193 m9 g9 hG (by omega) (fun f2 x2 y2 => ?_))
    refine xK_v rfl ?_
    refine xs_f 1213 (lv2 := [(7, _), (6, _), (0, _), (1, _), (2, _), (3, _), (4, _), (5, _)]) r_286_1211 rfl ?_
    refine xs_f 1214 r_286_1213 rfl ?_
    refine xs_call (lv2 := [(0, _)]) r_286_1214 rfl rfl (by decide) (xcan_0 rfl rfl x2 (by rfl)) rfl ?_
    refine xs_f 1 r_149_0 rfl ?_
    refine xs_get 4 r_149_1 rfl rfl x2 (by rfl) ?_
    refine xs_ret r_149_4 rfl ?_
    refine xK_v rfl ?_
    refine xs_f 1219 r_286_1217 rfl ?_
    refine xs_if 1224 1222 r_286_1219 rfl (fun hth => ?_) (fun hth => ?_)
    · refine xs_f 1226 r_286_1224 rfl ?_
      refine xs_f 1241 r_286_1226 rfl ?_
      refine xs_f 2897 r_286_1241 rfl ?_
      exact xP_lv [(0, .ref 12), (1, .ref 32), (2, .ref 809), (3, .ref 818), (4, .ref 819), (5, .int (nI i))] rfl ⟨rfl, rfl, rfl, rfl, rfl, rfl, trivial⟩ (k _ (hP.q (h2 := (f2, _)) (fun x h1 h2 h3 h4 => (y2 x (by omega)).trans (e9 x h2 h4)) ⟨_, _, _, x2⟩ ⟨_, O9.fr (y2 _ (by omega))⟩ (D9.fr (y2 _ (by omega))) ⟨_, _, _, c9.fr (fun x h1 h2 => y2 x (by omega))⟩ B9))
    · exact absurd (by first | exact congrArg nI z9 | rfl) hth

theorem lw_19 {S : XSc} {d : Nat} {h : XH} {Q : XO → XH → Prop} {i c : Nat} (hi : i + 7 ≤ S.1) (hL : S.1 ≤ 3584) (hc : c ≤ 511) (hI : LwI h c) (k : ∀ h2, LwI h2 (c + 1) → xP S (d + 14) 286 2897 [(0, .ref 12), (1, .ref 32), (2, .ref 809), (3, .ref 818), (4, .ref 819), (5, .int (nI i))] [] h2 Q) : xP S (d + 14) 286 1244 [(0, .ref 12), (1, .ref 32), (2, .ref 809), (3, .ref 818), (4, .ref 819), (5, .int (nI i))] [] h Q := by
  obtain ⟨H, Sv, pos, ch, sv, K, ea, fa, G, tn, Bu, on, Le, hP⟩ := hI
  obtain ⟨hX, hS, ⟨W, lo, hi2, hC⟩, ⟨p0, cc0, nu0, hT⟩, hZ, ⟨B, Mo, Pa, th, sp, wr, hM⟩, ⟨w0, hO⟩, hD, ⟨hK, h8, ht, hon⟩, hcn⟩ := id hP
  obtain ⟨o0, hHi, hSv, G8, hG8⟩ := id hX
  obtain ⟨mn, np, no, nn, N, sc, ho, TS, TH, tr, pl, q, s, R, hB, hr, hk, hN, hs⟩ := id hS
  obtain ⟨hG, ⟨r2, r3, r4⟩, r5, r6, r7, r8⟩ := id hr
  obtain ⟨m0, g0, b0, H0, S0, U0, L0, M0, A0⟩ := id hM
  have np5 := hG.1.2
  have no6 := hG.2.1.2
  have mm5 : ∀ i, i < no → (gQ G mn i).2.2.1 ≤ 5 := fun i hi => (hG.2.2 i (by omega)).2
  have hR : (R_fld np q no (S.2 (i + 1)) (S.2 (i + 2)) (fun e => e.2.2.1)) = (R_fld np (gQ G mn) no (S.2 (i + 1)) (S.2 (i + 2)) (fun e => e.2.2.1)) := R_fld_cong r7 np _ _ _
  refine xs_f 1245 r_286_1244 rfl ?_
  refine xs_f 1246 r_286_1245 rfl ?_
  refine xs_f 1248 r_286_1246 rfl ?_
  refine xs_f 1249 r_286_1248 rfl ?_
  refine xs_f 1250 r_286_1249 rfl ?_
  refine xs_ald 1251 0 r_286_1250 (fun _ _ => rfl) rfl rfl rfl (j := (i + 1)) (nI_addE rfl (nI_k 1)) (xarr_r rfl rfl) rfl (by show _ < S.1; omega) (by show S.1 ≤ 65536; omega) rfl ?_
  refine xs_f 1252 r_286_1251 rfl ?_
  refine xs_f 1254 r_286_1252 rfl ?_
  refine xs_f 1255 r_286_1254 rfl ?_
  refine xs_f 1256 r_286_1255 rfl ?_
  refine xs_ald 1257 0 r_286_1256 (fun _ _ => rfl) rfl rfl rfl (j := (i + 2)) (nI_addE rfl (nI_k 2)) (xarr_r rfl rfl) rfl (by show _ < S.1; omega) (by show S.1 ≤ 65536; omega) rfl ?_
  refine xs_f 1258 r_286_1257 rfl ?_
  refine xs_call (lv2 := [(0, _), (1, _), (2, _), (3, _)]) r_286_1258 rfl rfl (by decide) (xcan_3 rfl rfl) rfl ?_
  refine xs_f 1 r_258_0 rfl ?_
  refine xs_f 2 r_258_1 rfl ?_
  refine xs_f 3 r_258_2 rfl ?_
  refine xs_f 4 r_258_3 rfl ?_
  refine xs_f 5 r_258_4 rfl ?_
  refine xs_call (lv2 := [(0, _), (1, _), (2, _)]) r_258_5 rfl rfl (by decide) (xcan_0 rfl rfl (by first | assumption | exact xup_s | exact o0 | exact m9 | (refine (xup_n (by omega)).trans ?_; first | assumption | exact xup_s | exact o0 | exact m9) | (refine (xup_n (by omega)).trans ((xup_n (by omega)).trans ?_); first | assumption | exact xup_s | exact o0 | exact m9) | (refine (xup_n (by omega)).trans ((xup_n (by omega)).trans ((xup_n (by omega)).trans ?_)); first | assumption | exact xup_s | exact o0 | exact m9)) (by rfl)) rfl (e_103 o0 hB (by omega) (fun z9 => ?_) (fun z9 => ?_) (fun z9 => ?_))
  · rw [hR] at z9
    have q9 : ((R_fld np q no (S.2 (i + 1)) (S.2 (i + 2)) (fun e => e.2.2.1)) : XR).2 = (R_fld np (gQ G mn) no (S.2 (i + 1)) (S.2 (i + 2)) (fun e => e.2.2.1)).2 := congrArg Prod.snd hR
    have c8 := hC
    have e8 : ∀ x, (x < 794 ∨ 804 ≤ x) → h.1 x = h.1 x := fun _ _ => rfl
    refine xK_v rfl ?_
    refine xs_f 9 r_258_8 rfl ?_
    refine xs_astL 10 r_258_9 (fun _ _ => rfl) rfl rfl rfl (j := 0) (nI_k 0) hO (by omega) (fun f1 O9 y1 => ?_)
    have z1 : ∀ x, x ≠ 818 → (x < 794 ∨ 804 ≤ x) → f1 x = h.1 x := fun x h1 h2 => (y1 x (by omega)).trans (e8 x h2)
    have e9 := z1
    have c9 := c8.fr (g := f1) (fun x h1 h2 => y1 x (by omega))
    have m9 := (e9 809 (by omega) (by omega)).trans m0
    have g9 := g0.fr (e9 _ (by omega) (by omega))
    have D9 := hD.fr (e9 _ (by omega) (by omega))
    have B9 : h.2 = h.2 ∨ h.2 = (xbump h).2 := Or.inl rfl
    refine xs_f 21 r_258_10 rfl ?_
    refine xs_f 22 r_258_21 rfl ?_
    refine xs_ret r_258_22 rfl ?_
    refine xK_v rfl ?_
    refine xs_f 1263 (lv2 := [(6, _), (0, _), (1, _), (2, _), (3, _), (4, _), (5, _)]) r_286_1261 rfl ?_
    refine xs_f 1264 r_286_1263 rfl ?_
    refine xs_f 1265 r_286_1264 rfl ?_
    refine xs_f 1267 r_286_1265 rfl ?_
    refine xs_f 1268 r_286_1267 rfl ?_
    refine xs_f 1269 r_286_1268 rfl ?_
    refine xs_ald 1270 0 r_286_1269 (fun _ _ => rfl) rfl rfl rfl (j := (i + 1)) (nI_addE rfl (nI_k 1)) (xarr_r rfl rfl) rfl (by show _ < S.1; omega) (by show S.1 ≤ 65536; omega) rfl ?_
    refine xs_f 1271 r_286_1270 rfl ?_
    refine xs_f 1273 r_286_1271 rfl ?_
    refine xs_f 1274 r_286_1273 rfl ?_
    refine xs_f 1275 r_286_1274 rfl ?_
    refine xs_ald 1276 0 r_286_1275 (fun _ _ => rfl) rfl rfl rfl (j := (i + 2)) (nI_addE rfl (nI_k 2)) (xarr_r rfl rfl) rfl (by show _ < S.1; omega) (by show S.1 ≤ 65536; omega) rfl ?_
    refine xs_call (lv2 := [(0, _), (1, _), (2, _)]) r_286_1276 rfl rfl (by decide) (xcan_0 rfl rfl (by first | assumption | exact o0 | exact m9) (by rfl)) rfl (m_194 m9 g9 hG (by omega) (fun f2 x2 y2 => ?_))
    refine xK_v rfl ?_
    refine xs_f 1281 (lv2 := [(7, _), (6, _), (0, _), (1, _), (2, _), (3, _), (4, _), (5, _)]) r_286_1279 rfl ?_
    refine xs_f 1282 r_286_1281 rfl ?_
    refine xs_call (lv2 := [(0, _)]) r_286_1282 rfl rfl (by decide) (xcan_0 rfl rfl x2 (by rfl)) rfl ?_
    refine xs_f 1 r_149_0 rfl ?_
    refine xs_get 4 r_149_1 rfl rfl x2 (by rfl) ?_
    refine xs_ret r_149_4 rfl ?_
    refine xK_v rfl ?_
    refine xs_f 1287 r_286_1285 rfl ?_
    refine xs_if 1292 1290 r_286_1287 rfl (fun hth => ?_) (fun hth => ?_)
    · refine xs_f 1294 r_286_1292 rfl ?_
      refine xs_f 1297 r_286_1294 rfl ?_
      refine xs_f 1298 r_286_1297 rfl ?_
      refine xs_f 1299 r_286_1298 rfl ?_
      refine xs_aldL 1300 r_286_1299 (fun _ _ => rfl) rfl rfl rfl (j := 0) (nI_k 0) (O9.fr (y2 _ (by omega))) (by omega) ?_
      rw [xw_s]
      refine xs_f 1302 r_286_1300 rfl ?_
      refine xs_f 1303 r_286_1302 rfl ?_
      refine xs_f 1304 r_286_1303 rfl ?_
      refine xs_if 1309 1307 r_286_1304 rfl (fun hl => ?_) (fun hl => ?_)
      · refine xs_f 2897 r_286_1309 rfl ?_
        exact xP_lv [(0, .ref 12), (1, .ref 32), (2, .ref 809), (3, .ref 818), (4, .ref 819), (5, .int (nI i))] rfl ⟨rfl, rfl, rfl, rfl, rfl, rfl, trivial⟩ (k _ (hP.q (h2 := (f2, _)) (fun x h1 h2 h3 h4 => (y2 x (by omega)).trans (e9 x h2 h4)) ⟨_, _, _, x2⟩ ⟨_, O9.fr (y2 _ (by omega))⟩ (D9.fr (y2 _ (by omega))) ⟨_, _, _, c9.fr (fun x h1 h2 => y2 x (by omega))⟩ B9))
      · exact absurd (by rw [q9]; exact lg_cmp_r _) hl
    · exact absurd (by first | exact congrArg nI z9 | rfl) hth
  · rw [hR] at z9
    have c9 := hC
    have O9 := hO
    have D9 := hD
    have e9 : ∀ x, x ≠ 818 → (x < 794 ∨ 804 ≤ x) → (xbump h).1 x = h.1 x := fun _ _ _ => rfl
    have m9 := (e9 809 (by omega) (by omega)).trans m0
    have g9 := g0.fr (e9 _ (by omega) (by omega))
    have B9 : (xbump h).2 = h.2 ∨ (xbump h).2 = (xbump h).2 := Or.inr rfl
    refine xK_c (lv2 := [(0, _), (1, _), (2, _), (3, _)]) rfl rfl rfl rfl ?_
    refine xs_f 16 r_258_15 rfl ?_
    refine xs_ret r_258_16 rfl ?_
    refine xK_v rfl ?_
    refine xs_f 1263 (lv2 := [(6, _), (0, _), (1, _), (2, _), (3, _), (4, _), (5, _)]) r_286_1261 rfl ?_
    refine xs_f 1264 r_286_1263 rfl ?_
    refine xs_f 1265 r_286_1264 rfl ?_
    refine xs_f 1267 r_286_1265 rfl ?_
    refine xs_f 1268 r_286_1267 rfl ?_
    refine xs_f 1269 r_286_1268 rfl ?_
    refine xs_ald 1270 0 r_286_1269 (fun _ _ => rfl) rfl rfl rfl (j := (i + 1)) (nI_addE rfl (nI_k 1)) (xarr_r rfl rfl) rfl (by show _ < S.1; omega) (by show S.1 ≤ 65536; omega) rfl ?_
    refine xs_f 1271 r_286_1270 rfl ?_
    refine xs_f 1273 r_286_1271 rfl ?_
    refine xs_f 1274 r_286_1273 rfl ?_
    refine xs_f 1275 r_286_1274 rfl ?_
    refine xs_ald 1276 0 r_286_1275 (fun _ _ => rfl) rfl rfl rfl (j := (i + 2)) (nI_addE rfl (nI_k 2)) (xarr_r rfl rfl) rfl (by show _ < S.1; omega) (by show S.1 ≤ 65536; omega) rfl ?_
    refine xs_call (lv2 := [(0, _), (1, _), (2, _)]) r_286_1276 rfl rfl (by decide) (xcan_0 rfl rfl (by first | assumption | exact o0 | exact m9) (by rfl)) rfl (m_194 m9 g9 hG (by omega) (fun f2 x2 y2 => ?_))
    refine xK_v rfl ?_
    refine xs_f 1281 (lv2 := [(7, _), (6, _), (0, _), (1, _), (2, _), (3, _), (4, _), (5, _)]) r_286_1279 rfl ?_
    refine xs_f 1282 r_286_1281 rfl ?_
    refine xs_call (lv2 := [(0, _)]) r_286_1282 rfl rfl (by decide) (xcan_0 rfl rfl x2 (by rfl)) rfl ?_
    refine xs_f 1 r_149_0 rfl ?_
    refine xs_get 4 r_149_1 rfl rfl x2 (by rfl) ?_
    refine xs_ret r_149_4 rfl ?_
    refine xK_v rfl ?_
    refine xs_f 1287 r_286_1285 rfl ?_
    refine xs_if 1292 1290 r_286_1287 rfl (fun hth => ?_) (fun hth => ?_)
    · refine xs_f 1294 r_286_1292 rfl ?_
      refine xs_f 1309 r_286_1294 rfl ?_
      refine xs_f 2897 r_286_1309 rfl ?_
      exact xP_lv [(0, .ref 12), (1, .ref 32), (2, .ref 809), (3, .ref 818), (4, .ref 819), (5, .int (nI i))] rfl ⟨rfl, rfl, rfl, rfl, rfl, rfl, trivial⟩ (k _ (hP.q (h2 := (f2, _)) (fun x h1 h2 h3 h4 => (y2 x (by omega)).trans (e9 x h2 h4)) ⟨_, _, _, x2⟩ ⟨_, O9.fr (y2 _ (by omega))⟩ (D9.fr (y2 _ (by omega))) ⟨_, _, _, c9.fr (fun x h1 h2 => y2 x (by omega))⟩ B9))
    · exact absurd (by first | exact congrArg nI z9 | rfl) hth
  · rw [hR] at z9
    have c9 := hC
    have O9 := hO
    have D9 := hD
    have e9 : ∀ x, x ≠ 818 → (x < 794 ∨ 804 ≤ x) → (xbump h).1 x = h.1 x := fun _ _ _ => rfl
    have m9 := (e9 809 (by omega) (by omega)).trans m0
    have g9 := g0.fr (e9 _ (by omega) (by omega))
    have B9 : (xbump h).2 = h.2 ∨ (xbump h).2 = (xbump h).2 := Or.inr rfl
    refine xK_c (lv2 := [(0, _), (1, _), (2, _), (3, _)]) rfl rfl rfl rfl ?_
    refine xs_f 20 r_258_19 rfl ?_
    refine xs_ret r_258_20 rfl ?_
    refine xK_v rfl ?_
    refine xs_f 1263 (lv2 := [(6, _), (0, _), (1, _), (2, _), (3, _), (4, _), (5, _)]) r_286_1261 rfl ?_
    refine xs_f 1264 r_286_1263 rfl ?_
    refine xs_f 1265 r_286_1264 rfl ?_
    refine xs_f 1267 r_286_1265 rfl ?_
    refine xs_f 1268 r_286_1267 rfl ?_
    refine xs_f 1269 r_286_1268 rfl ?_
    refine xs_ald 1270 0 r_286_1269 (fun _ _ => rfl) rfl rfl rfl (j := (i + 1)) (nI_addE rfl (nI_k 1)) (xarr_r rfl rfl) rfl (by show _ < S.1; omega) (by show S.1 ≤ 65536; omega) rfl ?_
    refine xs_f 1271 r_286_1270 rfl ?_
    refine xs_f 1273 r_286_1271 rfl ?_
    refine xs_f 1274 r_286_1273 rfl ?_
    refine xs_f 1275 r_286_1274 rfl ?_
    refine xs_ald 1276 0 r_286_1275 (fun _ _ => rfl) rfl rfl rfl (j := (i + 2)) (nI_addE rfl (nI_k 2)) (xarr_r rfl rfl) rfl (by show _ < S.1; omega) (by show S.1 ≤ 65536; omega) rfl ?_
    refine xs_call (lv2 := [(0, _), (1, _), (2, _)]) r_286_1276 rfl rfl (by decide) (xcan_0 rfl rfl (by first | assumption | exact o0 | exact m9) (by rfl)) rfl (m_194 m9 g9 hG (by omega) (fun f2 x2 y2 => ?_))
    refine xK_v rfl ?_
    refine xs_f 1281 (lv2 := [(7, _), (6, _), (0, _), (1, _), (2, _), (3, _), (4, _), (5, _)]) r_286_1279 rfl ?_
    refine xs_f 1282 r_286_1281 rfl ?_
    refine xs_call (lv2 := [(0, _)]) r_286_1282 rfl rfl (by decide) (xcan_0 rfl rfl x2 (by rfl)) rfl ?_
    refine xs_f 1 r_149_0 rfl ?_
    refine xs_get 4 r_149_1 rfl rfl x2 (by rfl) ?_
    refine xs_ret r_149_4 rfl ?_
    refine xK_v rfl ?_
    refine xs_f 1287 r_286_1285 rfl ?_
    refine xs_if 1292 1290 r_286_1287 rfl (fun hth => ?_) (fun hth => ?_)
    · refine xs_f 1294 r_286_1292 rfl ?_
      refine xs_f 1309 r_286_1294 rfl ?_
      refine xs_f 2897 r_286_1309 rfl ?_
      exact xP_lv [(0, .ref 12), (1, .ref 32), (2, .ref 809), (3, .ref 818), (4, .ref 819), (5, .int (nI i))] rfl ⟨rfl, rfl, rfl, rfl, rfl, rfl, trivial⟩ (k _ (hP.q (h2 := (f2, _)) (fun x h1 h2 h3 h4 => (y2 x (by omega)).trans (e9 x h2 h4)) ⟨_, _, _, x2⟩ ⟨_, O9.fr (y2 _ (by omega))⟩ (D9.fr (y2 _ (by omega))) ⟨_, _, _, c9.fr (fun x h1 h2 => y2 x (by omega))⟩ B9))
    · exact absurd (by first | exact congrArg nI z9 | rfl) hth

