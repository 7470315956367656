/-! the law: questions, 0 -/
theorem lw_7 {S : XSc} {d : Nat} {h : XH} {Q : XO → XH → Prop} {i c : Nat} (hi : i + 7 ≤ S.1) (hL : S.1 ≤ 3584) (hc : c ≤ 511) (hI : LwI h c) (k : ∀ h2, LwI h2 (c + 1) → xP S (d + 14) 286 2897 [(0, .ref 12), (1, .ref 32), (2, .ref 809), (3, .ref 818), (4, .ref 819), (5, .int (nI i))] [] h2 Q) : xP S (d + 14) 286 651 [(0, .ref 12), (1, .ref 32), (2, .ref 809), (3, .ref 818), (4, .ref 819), (5, .int (nI i))] [] h Q := by
  obtain ⟨H, Sv, pos, ch, sv, K, ea, fa, G, tn, Bu, on, Le, hP⟩ := hI
  obtain ⟨hX, hS, ⟨W, lo, hi2, hC⟩, ⟨p0, cc0, nu0, hT⟩, hZ, ⟨B, Mo, Pa, th, sp, wr, hM⟩, ⟨w0, hO⟩, hD, ⟨hK, h8, ht, hon⟩, hcn⟩ := id hP
  obtain ⟨o0, hHi, hSv, G8, hG8⟩ := id hX
  obtain ⟨mn, np, no, nn, N, sc, ho, TS, TH, tr, pl, q, s, R, hB, hr, hk, hN, hs⟩ := id hS
  obtain ⟨hG, ⟨r2, r3, r4⟩, r5, r6, r7, r8⟩ := id hr
  obtain ⟨m0, g0, b0, H0, S0, U0, L0, M0, A0⟩ := id hM
  have np5 := hG.1.2
  have no6 := hG.2.1.2
  have mm5 : ∀ i, i < no → (gQ G mn i).2.2.1 ≤ 5 := fun i hi => (hG.2.2 i (by omega)).2
  have hR : (R_pl np (S.2 (i + 1)) (fun i => (pl i).1)) = (R_pl np (S.2 (i + 1)) (fun i => (gP G i).1)) := R_pl_cong (by omega) (fun i hi => (r6 i hi).1) _
  refine xs_f 652 r_286_651 rfl ?_
  refine xs_f 653 r_286_652 rfl ?_
  refine xs_f 655 r_286_653 rfl ?_
  refine xs_f 656 r_286_655 rfl ?_
  refine xs_f 657 r_286_656 rfl ?_
  refine xs_ald 658 0 r_286_657 (fun _ _ => rfl) rfl rfl rfl (j := (i + 1)) (nI_addE rfl (nI_k 1)) (xarr_r rfl rfl) rfl (by show _ < S.1; omega) (by show S.1 ≤ 65536; omega) rfl ?_
  refine xs_f 659 r_286_658 rfl ?_
  refine xs_call (lv2 := [(0, _), (1, _), (2, _)]) r_286_659 rfl rfl (by decide) (xcan_3 rfl rfl) rfl ?_
  refine xs_f 1 r_249_0 rfl ?_
  refine xs_f 2 r_249_1 rfl ?_
  refine xs_f 3 r_249_2 rfl ?_
  refine xs_f 4 r_249_3 rfl ?_
  refine xs_call (lv2 := [(0, _), (1, _)]) r_249_4 rfl rfl (by decide) (xcan_0 rfl rfl (by first | assumption | exact xup_s | exact o0 | exact m9 | (refine (xup_n (by omega)).trans ?_; first | assumption | exact xup_s | exact o0 | exact m9) | (refine (xup_n (by omega)).trans ((xup_n (by omega)).trans ?_); first | assumption | exact xup_s | exact o0 | exact m9) | (refine (xup_n (by omega)).trans ((xup_n (by omega)).trans ((xup_n (by omega)).trans ?_)); first | assumption | exact xup_s | exact o0 | exact m9)) (by rfl)) rfl (e_91 o0 hB (by omega) (fun z9 => ?_) (fun z9 => ?_))
  · rw [hR] at z9
    have q9 : ((R_pl np (S.2 (i + 1)) (fun i => (pl i).1)) : XR).2 = (R_pl np (S.2 (i + 1)) (fun i => (gP G i).1)).2 := congrArg Prod.snd hR
    have c8 := hC
    have e8 : ∀ x, (x < 794 ∨ 804 ≤ x) → h.1 x = h.1 x := fun _ _ => rfl
    refine xK_v rfl ?_
    refine xs_f 8 r_249_7 rfl ?_
    refine xs_astL 9 r_249_8 (fun _ _ => rfl) rfl rfl rfl (j := 0) (nI_k 0) hO (by omega) (fun f1 O9 y1 => ?_)
    have z1 : ∀ x, x ≠ 818 → (x < 794 ∨ 804 ≤ x) → f1 x = h.1 x := fun x h1 h2 => (y1 x (by omega)).trans (e8 x h2)
    have e9 := z1
    have c9 := c8.fr (g := f1) (fun x h1 h2 => y1 x (by omega))
    have m9 := (e9 809 (by omega) (by omega)).trans m0
    have g9 := g0.fr (e9 _ (by omega) (by omega))
    have D9 := hD.fr (e9 _ (by omega) (by omega))
    have B9 : h.2 = h.2 ∨ h.2 = (xbump h).2 := Or.inl rfl
    refine xs_f 15 r_249_9 rfl ?_
    refine xs_f 16 r_249_15 rfl ?_
    refine xs_ret r_249_16 rfl ?_
    refine xK_v rfl ?_
    refine xs_f 664 (lv2 := [(6, _), (0, _), (1, _), (2, _), (3, _), (4, _), (5, _)]) r_286_662 rfl ?_
    refine xs_f 665 r_286_664 rfl ?_
    refine xs_f 666 r_286_665 rfl ?_
    refine xs_f 668 r_286_666 rfl ?_
    refine xs_f 669 r_286_668 rfl ?_
    refine xs_f 670 r_286_669 rfl ?_
    refine xs_ald 671 0 r_286_670 (fun _ _ => rfl) rfl rfl rfl (j := (i + 1)) (nI_addE rfl (nI_k 1)) (xarr_r rfl rfl) rfl (by show _ < S.1; omega) (by show S.1 ≤ 65536; omega) rfl ?_
    refine xs_call (lv2 := [(0, _), (1, _)]) r_286_671 rfl rfl (by decide) (xcan_0 rfl rfl (by first | assumption | exact o0 | exact m9) (by rfl)) rfl (m_180 m9 g9 hG (by omega) (fun f2 x2 y2 => ?_))
    refine xK_v rfl ?_
    refine xs_f 676 (lv2 := [(7, _), (6, _), (0, _), (1, _), (2, _), (3, _), (4, _), (5, _)]) r_286_674 rfl ?_
    refine xs_f 677 r_286_676 rfl ?_
    refine xs_call (lv2 := [(0, _)]) r_286_677 rfl rfl (by decide) (xcan_0 rfl rfl x2 (by rfl)) rfl ?_
    refine xs_f 1 r_149_0 rfl ?_
    refine xs_get 4 r_149_1 rfl rfl x2 (by rfl) ?_
    refine xs_ret r_149_4 rfl ?_
    refine xK_v rfl ?_
    refine xs_f 682 r_286_680 rfl ?_
    refine xs_if 687 685 r_286_682 rfl (fun hth => ?_) (fun hth => ?_)
    · refine xs_f 689 r_286_687 rfl ?_
      refine xs_f 692 r_286_689 rfl ?_
      refine xs_f 693 r_286_692 rfl ?_
      refine xs_f 694 r_286_693 rfl ?_
      refine xs_aldL 695 r_286_694 (fun _ _ => rfl) rfl rfl rfl (j := 0) (nI_k 0) (O9.fr (y2 _ (by omega))) (by omega) ?_
      rw [xw_s]
      refine xs_f 697 r_286_695 rfl ?_
      refine xs_f 698 r_286_697 rfl ?_
      refine xs_f 699 r_286_698 rfl ?_
      refine xs_if 704 702 r_286_699 rfl (fun hl => ?_) (fun hl => ?_)
      · refine xs_f 2897 r_286_704 rfl ?_
        exact xP_lv [(0, .ref 12), (1, .ref 32), (2, .ref 809), (3, .ref 818), (4, .ref 819), (5, .int (nI i))] rfl ⟨rfl, rfl, rfl, rfl, rfl, rfl, trivial⟩ (k _ (hP.q (h2 := (f2, _)) (fun x h1 h2 h3 h4 => (y2 x (by omega)).trans (e9 x h2 h4)) ⟨_, _, _, x2⟩ ⟨_, O9.fr (y2 _ (by omega))⟩ (D9.fr (y2 _ (by omega))) ⟨_, _, _, c9.fr (fun x h1 h2 => y2 x (by omega))⟩ B9))
      · exact absurd (by rw [q9]; exact lg_cmp_r _) hl
    · exact absurd (by first | exact congrArg nI z9 | rfl) hth
  · rw [hR] at z9
    have c9 := hC
    have O9 := hO
    have D9 := hD
    have e9 : ∀ x, x ≠ 818 → (x < 794 ∨ 804 ≤ x) → (xbump h).1 x = h.1 x := fun _ _ _ => rfl
    have m9 := (e9 809 (by omega) (by omega)).trans m0
    have g9 := g0.fr (e9 _ (by omega) (by omega))
    have B9 : (xbump h).2 = h.2 ∨ (xbump h).2 = (xbump h).2 := Or.inr rfl
    refine xK_c (lv2 := [(0, _), (1, _), (2, _)]) rfl rfl rfl rfl ?_
    refine xs_f 14 r_249_13 rfl ?_
    refine xs_ret r_249_14 rfl ?_
    refine xK_v rfl ?_
    refine xs_f 664 (lv2 := [(6, _), (0, _), (1, _), (2, _), (3, _), (4, _), (5, _)]) r_286_662 rfl ?_
    refine xs_f 665 r_286_664 rfl ?_
    refine xs_f 666 r_286_665 rfl ?_
    refine xs_f 668 r_286_666 rfl ?_
    refine xs_f 669 r_286_668 rfl ?_
    refine xs_f 670 r_286_669 rfl ?_
    refine xs_ald 671 0 r_286_670 (fun _ _ => rfl) rfl rfl rfl (j := (i + 1)) (nI_addE rfl (nI_k 1)) (xarr_r rfl rfl) rfl (by show _ < S.1; omega) (by show S.1 ≤ 65536; omega) rfl ?_
    refine xs_call (lv2 := [(0, _), (1, _)]) r_286_671 rfl rfl (by decide) (xcan_0 rfl rfl (by first | assumption | exact o0 | exact m9) (by rfl)) rfl (m_180 m9 g9 hG (by omega) (fun f2 x2 y2 => ?_))
    refine xK_v rfl ?_
    refine xs_f 676 (lv2 := [(7, _), (6, _), (0, _), (1, _), (2, _), (3, _), (4, _), (5, _)]) r_286_674 rfl ?_
    refine xs_f 677 r_286_676 rfl ?_
    refine xs_call (lv2 := [(0, _)]) r_286_677 rfl rfl (by decide) (xcan_0 rfl rfl x2 (by rfl)) rfl ?_
    refine xs_f 1 r_149_0 rfl ?_
    refine xs_get 4 r_149_1 rfl rfl x2 (by rfl) ?_
    refine xs_ret r_149_4 rfl ?_
    refine xK_v rfl ?_
    refine xs_f 682 r_286_680 rfl ?_
    refine xs_if 687 685 r_286_682 rfl (fun hth => ?_) (fun hth => ?_)
    · refine xs_f 689 r_286_687 rfl ?_
      refine xs_f 704 r_286_689 rfl ?_
      refine xs_f 2897 r_286_704 rfl ?_
      exact xP_lv [(0, .ref 12), (1, .ref 32), (2, .ref 809), (3, .ref 818), (4, .ref 819), (5, .int (nI i))] rfl ⟨rfl, rfl, rfl, rfl, rfl, rfl, trivial⟩ (k _ (hP.q (h2 := (f2, _)) (fun x h1 h2 h3 h4 => (y2 x (by omega)).trans (e9 x h2 h4)) ⟨_, _, _, x2⟩ ⟨_, O9.fr (y2 _ (by omega))⟩ (D9.fr (y2 _ (by omega))) ⟨_, _, _, c9.fr (fun x h1 h2 => y2 x (by omega))⟩ B9))
    · exact absurd (by first | exact congrArg nI z9 | rfl) hth

theorem lw_8_0 {S : XSc} {d : Nat} {h : XH} {Q : XO → XH → Prop} {i c : Nat} (hi : i + 7 ≤ S.1) (hL : S.1 ≤ 3584) (hc : c ≤ 511) {H Sv : Nat → Int32} {pos ch : Nat} {sv : Bool} {K : Nat} {ea fa : Int32} {G : Nat → Int32} {tn : Nat} {Bu : Nat → Int32} {on : Nat} {Le : Nat → Int32} (hP : LwP h c H Sv pos ch sv K ea fa G tn Bu on Le) {mn : Nat → Nat} {np no : Nat} {nn : Int32} {N sc : Nat} {ho : Int32} {TS TH tr : Nat → Int32} {pl : Nat → XPl} {q : Nat → XQu} {s : Nat → Nat} {R : Nat → Nat → Nat} (hB : BdP h.1 33 np no nn sc ho TS TH tr pl q s R) (hr : RG G mn np no nn sc ho tr pl q) (hk : OKc np no nn N sc ho TS TH pl q) (hN : N ≤ K) (hs : sc ≤ K) (hv : (R_pl np (S.2 (i + 1)) (fun i => bI (gP G i).2.2.1)).2 = 0) (k : ∀ h2, LwI h2 (c + 1) → xP S (d + 14) 286 2897 [(0, .ref 12), (1, .ref 32), (2, .ref 809), (3, .ref 818), (4, .ref 819), (5, .int (nI i))] [] h2 Q) : xP S (d + 14) 286 707 [(0, .ref 12), (1, .ref 32), (2, .ref 809), (3, .ref 818), (4, .ref 819), (5, .int (nI i))] [] h Q := by
  obtain ⟨hX, hS, ⟨W, lo, hi2, hC⟩, ⟨p0, cc0, nu0, hT⟩, hZ, ⟨B, Mo, Pa, th, sp, wr, hM⟩, ⟨w0, hO⟩, hD, ⟨hK, h8, ht, hon⟩, hcn⟩ := id hP
  obtain ⟨o0, hHi, hSv, G8, hG8⟩ := id hX
  obtain ⟨hG, ⟨r2, r3, r4⟩, r5, r6, r7, r8⟩ := id hr
  obtain ⟨m0, g0, b0, H0, S0, U0, L0, M0, A0⟩ := id hM
  have np5 := hG.1.2
  have no6 := hG.2.1.2
  have mm5 : ∀ i, i < no → (gQ G mn i).2.2.1 ≤ 5 := fun i hi => (hG.2.2 i (by omega)).2
  have hR : (R_pl np (S.2 (i + 1)) (fun i => bI (pl i).2.2.1)) = (R_pl np (S.2 (i + 1)) (fun i => bI (gP G i).2.2.1)) := R_pl_cong (by omega) (fun i hi => congrArg bI (r6 i hi).2.2.1) _
  have hv9 : (R_pl np (S.2 (i + 1)) (fun i => bI (pl i).2.2.1)).2 = 0 := by rw [hR]; exact hv
  refine xs_f 708 r_286_707 rfl ?_
  refine xs_f 709 r_286_708 rfl ?_
  refine xs_f 711 r_286_709 rfl ?_
  refine xs_f 712 r_286_711 rfl ?_
  refine xs_f 713 r_286_712 rfl ?_
  refine xs_ald 714 0 r_286_713 (fun _ _ => rfl) rfl rfl rfl (j := (i + 1)) (nI_addE rfl (nI_k 1)) (xarr_r rfl rfl) rfl (by show _ < S.1; omega) (by show S.1 ≤ 65536; omega) rfl ?_
  refine xs_f 715 r_286_714 rfl ?_
  refine xs_call (lv2 := [(0, _), (1, _), (2, _)]) r_286_715 rfl rfl (by decide) (xcan_3 rfl rfl) rfl ?_
  refine xs_f 1 r_250_0 rfl ?_
  refine xs_f 2 r_250_1 rfl ?_
  refine xs_f 3 r_250_2 rfl ?_
  refine xs_f 4 r_250_3 rfl ?_
  refine xs_call (lv2 := [(0, _), (1, _)]) r_250_4 rfl rfl (by decide) (xcan_0 rfl rfl (by first | assumption | exact xup_s | exact o0 | exact m9 | (refine (xup_n (by omega)).trans ?_; first | assumption | exact xup_s | exact o0 | exact m9) | (refine (xup_n (by omega)).trans ((xup_n (by omega)).trans ?_); first | assumption | exact xup_s | exact o0 | exact m9) | (refine (xup_n (by omega)).trans ((xup_n (by omega)).trans ((xup_n (by omega)).trans ?_)); first | assumption | exact xup_s | exact o0 | exact m9)) (by rfl)) rfl (e_92 o0 hB (by omega) (fun z9 => ?_) (fun z9 => ?_))
  · rw [hR] at z9
    have q9 : ((R_pl np (S.2 (i + 1)) (fun i => bI (pl i).2.2.1)) : XR).2 = (R_pl np (S.2 (i + 1)) (fun i => bI (gP G i).2.2.1)).2 := congrArg Prod.snd hR
    have c8 := hC
    have e8 : ∀ x, (x < 794 ∨ 804 ≤ x) → h.1 x = h.1 x := fun _ _ => rfl
    rw [hv9]
    refine xK_v rfl ?_
    refine xs_f 14 r_250_7 rfl ?_
    refine xs_f 15 r_250_14 rfl ?_
    refine xs_astL 16 r_250_15 (fun _ _ => rfl) rfl rfl rfl (j := 0) (nI_k 0) hO (by omega) (fun f1 O9 y1 => ?_)
    have z1 : ∀ x, x ≠ 818 → (x < 794 ∨ 804 ≤ x) → f1 x = h.1 x := fun x h1 h2 => (y1 x (by omega)).trans (e8 x h2)
    have e9 := z1
    have c9 := c8.fr (g := f1) (fun x h1 h2 => y1 x (by omega))
    have m9 := (e9 809 (by omega) (by omega)).trans m0
    have g9 := g0.fr (e9 _ (by omega) (by omega))
    have D9 := hD.fr (e9 _ (by omega) (by omega))
    have B9 : h.2 = h.2 ∨ h.2 = (xbump h).2 := Or.inl rfl
    refine xs_f 22 r_250_16 rfl ?_
    refine xs_f 23 r_250_22 rfl ?_
    refine xs_ret r_250_23 rfl ?_
    refine xK_v rfl ?_
    refine xs_f 720 (lv2 := [(6, _), (0, _), (1, _), (2, _), (3, _), (4, _), (5, _)]) r_286_718 rfl ?_
    refine xs_f 721 r_286_720 rfl ?_
    refine xs_f 722 r_286_721 rfl ?_
    refine xs_f 724 r_286_722 rfl ?_
    refine xs_f 725 r_286_724 rfl ?_
    refine xs_f 726 r_286_725 rfl ?_
    refine xs_ald 727 0 r_286_726 (fun _ _ => rfl) rfl rfl rfl (j := (i + 1)) (nI_addE rfl (nI_k 1)) (xarr_r rfl rfl) rfl (by show _ < S.1; omega) (by show S.1 ≤ 65536; omega) rfl ?_
    refine xs_call (lv2 := [(0, _), (1, _)]) r_286_727 rfl rfl (by decide) (xcan_0 rfl rfl (by first | assumption | exact o0 | exact m9) (by rfl)) rfl (m_181 m9 g9 hG (by omega) (fun f2 x2 y2 => ?_))
    rw [hv]
    refine xK_v rfl ?_
    refine xs_f 732 (lv2 := [(7, _), (6, _), (0, _), (1, _), (2, _), (3, _), (4, _), (5, _)]) r_286_730 rfl ?_
    refine xs_f 733 r_286_732 rfl ?_
    refine xs_call (lv2 := [(0, _)]) r_286_733 rfl rfl (by decide) (xcan_0 rfl rfl x2 (by rfl)) rfl ?_
    refine xs_f 1 r_149_0 rfl ?_
    refine xs_get 4 r_149_1 rfl rfl x2 (by rfl) ?_
    refine xs_ret r_149_4 rfl ?_
    refine xK_v rfl ?_
    refine xs_f 738 r_286_736 rfl ?_
    refine xs_if 743 741 r_286_738 rfl (fun hth => ?_) (fun hth => ?_)
    · refine xs_f 745 r_286_743 rfl ?_
      refine xs_f 748 r_286_745 rfl ?_
      refine xs_f 749 r_286_748 rfl ?_
      refine xs_f 750 r_286_749 rfl ?_
      refine xs_aldL 751 r_286_750 (fun _ _ => rfl) rfl rfl rfl (j := 0) (nI_k 0) (O9.fr (y2 _ (by omega))) (by omega) ?_
      rw [xw_s]
      refine xs_f 753 r_286_751 rfl ?_
      refine xs_f 760 r_286_753 rfl ?_
      refine xs_f 761 r_286_760 rfl ?_
      refine xs_f 762 r_286_761 rfl ?_
      refine xs_f 767 r_286_762 (by rw [lg_cmp_r]; rfl) ?_
      refine xs_f 2897 r_286_767 rfl ?_
      exact xP_lv [(0, .ref 12), (1, .ref 32), (2, .ref 809), (3, .ref 818), (4, .ref 819), (5, .int (nI i))] rfl ⟨rfl, rfl, rfl, rfl, rfl, rfl, trivial⟩ (k _ (hP.q (h2 := (f2, _)) (fun x h1 h2 h3 h4 => (y2 x (by omega)).trans (e9 x h2 h4)) ⟨_, _, _, x2⟩ ⟨_, O9.fr (y2 _ (by omega))⟩ (D9.fr (y2 _ (by omega))) ⟨_, _, _, c9.fr (fun x h1 h2 => y2 x (by omega))⟩ B9))
    · exact absurd (by first | exact congrArg nI z9 | rfl) hth
  · rw [hR] at z9
    have c9 := hC
    have O9 := hO
    have D9 := hD
    have e9 : ∀ x, x ≠ 818 → (x < 794 ∨ 804 ≤ x) → (xbump h).1 x = h.1 x := fun _ _ _ => rfl
    have m9 := (e9 809 (by omega) (by omega)).trans m0
    have g9 := g0.fr (e9 _ (by omega) (by omega))
    have B9 : (xbump h).2 = h.2 ∨ (xbump h).2 = (xbump h).2 := Or.inr rfl
    refine xK_c (lv2 := [(0, _), (1, _), (2, _)]) rfl rfl rfl rfl ?_
    refine xs_f 21 r_250_20 rfl ?_
    refine xs_ret r_250_21 rfl ?_
    refine xK_v rfl ?_
    refine xs_f 720 (lv2 := [(6, _), (0, _), (1, _), (2, _), (3, _), (4, _), (5, _)]) r_286_718 rfl ?_
    refine xs_f 721 r_286_720 rfl ?_
    refine xs_f 722 r_286_721 rfl ?_
    refine xs_f 724 r_286_722 rfl ?_
    refine xs_f 725 r_286_724 rfl ?_
    refine xs_f 726 r_286_725 rfl ?_
    refine xs_ald 727 0 r_286_726 (fun _ _ => rfl) rfl rfl rfl (j := (i + 1)) (nI_addE rfl (nI_k 1)) (xarr_r rfl rfl) rfl (by show _ < S.1; omega) (by show S.1 ≤ 65536; omega) rfl ?_
    refine xs_call (lv2 := [(0, _), (1, _)]) r_286_727 rfl rfl (by decide) (xcan_0 rfl rfl (by first | assumption | exact o0 | exact m9) (by rfl)) rfl (m_181 m9 g9 hG (by omega) (fun f2 x2 y2 => ?_))
    refine xK_v rfl ?_
    refine xs_f 732 (lv2 := [(7, _), (6, _), (0, _), (1, _), (2, _), (3, _), (4, _), (5, _)]) r_286_730 rfl ?_
    refine xs_f 733 r_286_732 rfl ?_
    refine xs_call (lv2 := [(0, _)]) r_286_733 rfl rfl (by decide) (xcan_0 rfl rfl x2 (by rfl)) rfl ?_
    refine xs_f 1 r_149_0 rfl ?_
    refine xs_get 4 r_149_1 rfl rfl x2 (by rfl) ?_
    refine xs_ret r_149_4 rfl ?_
    refine xK_v rfl ?_
    refine xs_f 738 r_286_736 rfl ?_
    refine xs_if 743 741 r_286_738 rfl (fun hth => ?_) (fun hth => ?_)
    · refine xs_f 745 r_286_743 rfl ?_
      refine xs_f 767 r_286_745 rfl ?_
      refine xs_f 2897 r_286_767 rfl ?_
      exact xP_lv [(0, .ref 12), (1, .ref 32), (2, .ref 809), (3, .ref 818), (4, .ref 819), (5, .int (nI i))] rfl ⟨rfl, rfl, rfl, rfl, rfl, rfl, trivial⟩ (k _ (hP.q (h2 := (f2, _)) (fun x h1 h2 h3 h4 => (y2 x (by omega)).trans (e9 x h2 h4)) ⟨_, _, _, x2⟩ ⟨_, O9.fr (y2 _ (by omega))⟩ (D9.fr (y2 _ (by omega))) ⟨_, _, _, c9.fr (fun x h1 h2 => y2 x (by omega))⟩ B9))
    · exact absurd (by first | exact congrArg nI z9 | rfl) hth

theorem lw_8_1 {S : XSc} {d : Nat} {h : XH} {Q : XO → XH → Prop} {i c : Nat} (hi : i + 7 ≤ S.1) (hL : S.1 ≤ 3584) (hc : c ≤ 511) {H Sv : Nat → Int32} {pos ch : Nat} {sv : Bool} {K : Nat} {ea fa : Int32} {G : Nat → Int32} {tn : Nat} {Bu : Nat → Int32} {on : Nat} {Le : Nat → Int32} (hP : LwP h c H Sv pos ch sv K ea fa G tn Bu on Le) {mn : Nat → Nat} {np no : Nat} {nn : Int32} {N sc : Nat} {ho : Int32} {TS TH tr : Nat → Int32} {pl : Nat → XPl} {q : Nat → XQu} {s : Nat → Nat} {R : Nat → Nat → Nat} (hB : BdP h.1 33 np no nn sc ho TS TH tr pl q s R) (hr : RG G mn np no nn sc ho tr pl q) (hk : OKc np no nn N sc ho TS TH pl q) (hN : N ≤ K) (hs : sc ≤ K) (hv : (R_pl np (S.2 (i + 1)) (fun i => bI (gP G i).2.2.1)).2 = 1) (k : ∀ h2, LwI h2 (c + 1) → xP S (d + 14) 286 2897 [(0, .ref 12), (1, .ref 32), (2, .ref 809), (3, .ref 818), (4, .ref 819), (5, .int (nI i))] [] h2 Q) : xP S (d + 14) 286 707 [(0, .ref 12), (1, .ref 32), (2, .ref 809), (3, .ref 818), (4, .ref 819), (5, .int (nI i))] [] h Q := by
  obtain ⟨hX, hS, ⟨W, lo, hi2, hC⟩, ⟨p0, cc0, nu0, hT⟩, hZ, ⟨B, Mo, Pa, th, sp, wr, hM⟩, ⟨w0, hO⟩, hD, ⟨hK, h8, ht, hon⟩, hcn⟩ := id hP
  obtain ⟨o0, hHi, hSv, G8, hG8⟩ := id hX
  obtain ⟨hG, ⟨r2, r3, r4⟩, r5, r6, r7, r8⟩ := id hr
  obtain ⟨m0, g0, b0, H0, S0, U0, L0, M0, A0⟩ := id hM
  have np5 := hG.1.2
  have no6 := hG.2.1.2
  have mm5 : ∀ i, i < no → (gQ G mn i).2.2.1 ≤ 5 := fun i hi => (hG.2.2 i (by omega)).2
  have hR : (R_pl np (S.2 (i + 1)) (fun i => bI (pl i).2.2.1)) = (R_pl np (S.2 (i + 1)) (fun i => bI (gP G i).2.2.1)) := R_pl_cong (by omega) (fun i hi => congrArg bI (r6 i hi).2.2.1) _
  have hv9 : (R_pl np (S.2 (i + 1)) (fun i => bI (pl i).2.2.1)).2 = 1 := by rw [hR]; exact hv
  refine xs_f 708 r_286_707 rfl ?_
  refine xs_f 709 r_286_708 rfl ?_
  refine xs_f 711 r_286_709 rfl ?_
  refine xs_f 712 r_286_711 rfl ?_
  refine xs_f 713 r_286_712 rfl ?_
  refine xs_ald 714 0 r_286_713 (fun _ _ => rfl) rfl rfl rfl (j := (i + 1)) (nI_addE rfl (nI_k 1)) (xarr_r rfl rfl) rfl (by show _ < S.1; omega) (by show S.1 ≤ 65536; omega) rfl ?_
  refine xs_f 715 r_286_714 rfl ?_
  refine xs_call (lv2 := [(0, _), (1, _), (2, _)]) r_286_715 rfl rfl (by decide) (xcan_3 rfl rfl) rfl ?_
  refine xs_f 1 r_250_0 rfl ?_
  refine xs_f 2 r_250_1 rfl ?_
  refine xs_f 3 r_250_2 rfl ?_
  refine xs_f 4 r_250_3 rfl ?_
  refine xs_call (lv2 := [(0, _), (1, _)]) r_250_4 rfl rfl (by decide) (xcan_0 rfl rfl (by first | assumption | exact xup_s | exact o0 | exact m9 | (refine (xup_n (by omega)).trans ?_; first | assumption | exact xup_s | exact o0 | exact m9) | (refine (xup_n (by omega)).trans ((xup_n (by omega)).trans ?_); first | assumption | exact xup_s | exact o0 | exact m9) | (refine (xup_n (by omega)).trans ((xup_n (by omega)).trans ((xup_n (by omega)).trans ?_)); first | assumption | exact xup_s | exact o0 | exact m9)) (by rfl)) rfl (e_92 o0 hB (by omega) (fun z9 => ?_) (fun z9 => ?_))
  · rw [hR] at z9
    have q9 : ((R_pl np (S.2 (i + 1)) (fun i => bI (pl i).2.2.1)) : XR).2 = (R_pl np (S.2 (i + 1)) (fun i => bI (gP G i).2.2.1)).2 := congrArg Prod.snd hR
    have c8 := hC
    have e8 : ∀ x, (x < 794 ∨ 804 ≤ x) → h.1 x = h.1 x := fun _ _ => rfl
    rw [hv9]
    refine xK_v rfl ?_
    refine xs_f 10 r_250_7 rfl ?_
    refine xs_f 11 r_250_10 rfl ?_
    refine xs_f 15 r_250_11 rfl ?_
    refine xs_astL 16 r_250_15 (fun _ _ => rfl) rfl rfl rfl (j := 0) (nI_k 0) hO (by omega) (fun f1 O9 y1 => ?_)
    have z1 : ∀ x, x ≠ 818 → (x < 794 ∨ 804 ≤ x) → f1 x = h.1 x := fun x h1 h2 => (y1 x (by omega)).trans (e8 x h2)
    have e9 := z1
    have c9 := c8.fr (g := f1) (fun x h1 h2 => y1 x (by omega))
    have m9 := (e9 809 (by omega) (by omega)).trans m0
    have g9 := g0.fr (e9 _ (by omega) (by omega))
    have D9 := hD.fr (e9 _ (by omega) (by omega))
    have B9 : h.2 = h.2 ∨ h.2 = (xbump h).2 := Or.inl rfl
    refine xs_f 22 r_250_16 rfl ?_
    refine xs_f 23 r_250_22 rfl ?_
    refine xs_ret r_250_23 rfl ?_
    refine xK_v rfl ?_
    refine xs_f 720 (lv2 := [(6, _), (0, _), (1, _), (2, _), (3, _), (4, _), (5, _)]) r_286_718 rfl ?_
    refine xs_f 721 r_286_720 rfl ?_
    refine xs_f 722 r_286_721 rfl ?_
    refine xs_f 724 r_286_722 rfl ?_
    refine xs_f 725 r_286_724 rfl ?_
    refine xs_f 726 r_286_725 rfl ?_
    refine xs_ald 727 0 r_286_726 (fun _ _ => rfl) rfl rfl rfl (j := (i + 1)) (nI_addE rfl (nI_k 1)) (xarr_r rfl rfl) rfl (by show _ < S.1; omega) (by show S.1 ≤ 65536; omega) rfl ?_
    refine xs_call (lv2 := [(0, _), (1, _)]) r_286_727 rfl rfl (by decide) (xcan_0 rfl rfl (by first | assumption | exact o0 | exact m9) (by rfl)) rfl (m_181 m9 g9 hG (by omega) (fun f2 x2 y2 => ?_))
    rw [hv]
    refine xK_v rfl ?_
    refine xs_f 732 (lv2 := [(7, _), (6, _), (0, _), (1, _), (2, _), (3, _), (4, _), (5, _)]) r_286_730 rfl ?_
    refine xs_f 733 r_286_732 rfl ?_
    refine xs_call (lv2 := [(0, _)]) r_286_733 rfl rfl (by decide) (xcan_0 rfl rfl x2 (by rfl)) rfl ?_
    refine xs_f 1 r_149_0 rfl ?_
    refine xs_get 4 r_149_1 rfl rfl x2 (by rfl) ?_
    refine xs_ret r_149_4 rfl ?_
    refine xK_v rfl ?_
    refine xs_f 738 r_286_736 rfl ?_
    refine xs_if 743 741 r_286_738 rfl (fun hth => ?_) (fun hth => ?_)
    · refine xs_f 745 r_286_743 rfl ?_
      refine xs_f 748 r_286_745 rfl ?_
      refine xs_f 749 r_286_748 rfl ?_
      refine xs_f 750 r_286_749 rfl ?_
      refine xs_aldL 751 r_286_750 (fun _ _ => rfl) rfl rfl rfl (j := 0) (nI_k 0) (O9.fr (y2 _ (by omega))) (by omega) ?_
      rw [xw_s]
      refine xs_f 753 r_286_751 rfl ?_
      refine xs_f 756 r_286_753 rfl ?_
      refine xs_f 757 r_286_756 rfl ?_
      refine xs_f 761 r_286_757 rfl ?_
      refine xs_f 762 r_286_761 rfl ?_
      refine xs_f 767 r_286_762 (by rw [lg_cmp_r]; rfl) ?_
      refine xs_f 2897 r_286_767 rfl ?_
      exact xP_lv [(0, .ref 12), (1, .ref 32), (2, .ref 809), (3, .ref 818), (4, .ref 819), (5, .int (nI i))] rfl ⟨rfl, rfl, rfl, rfl, rfl, rfl, trivial⟩ (k _ (hP.q (h2 := (f2, _)) (fun x h1 h2 h3 h4 => (y2 x (by omega)).trans (e9 x h2 h4)) ⟨_, _, _, x2⟩ ⟨_, O9.fr (y2 _ (by omega))⟩ (D9.fr (y2 _ (by omega))) ⟨_, _, _, c9.fr (fun x h1 h2 => y2 x (by omega))⟩ B9))
    · exact absurd (by first | exact congrArg nI z9 | rfl) hth
  · rw [hR] at z9
    have c9 := hC
    have O9 := hO
    have D9 := hD
    have e9 : ∀ x, x ≠ 818 → (x < 794 ∨ 804 ≤ x) → (xbump h).1 x = h.1 x := fun _ _ _ => rfl
    have m9 := (e9 809 (by omega) (by omega)).trans m0
    have g9 := g0.fr (e9 _ (by omega) (by omega))
    have B9 : (xbump h).2 = h.2 ∨ (xbump h).2 = (xbump h).2 := Or.inr rfl
    refine xK_c (lv2 := [(0, _), (1, _), (2, _)]) rfl rfl rfl rfl ?_
    refine xs_f 21 r_250_20 rfl ?_
    refine xs_ret r_250_21 rfl ?_
    refine xK_v rfl ?_
    refine xs_f 720 (lv2 := [(6, _), (0, _), (1, _), (2, _), (3, _), (4, _), (5, _)]) r_286_718 rfl ?_
    refine xs_f 721 r_286_720 rfl ?_
    refine xs_f 722 r_286_721 rfl ?_
    refine xs_f 724 r_286_722 rfl ?_
    refine xs_f 725 r_286_724 rfl ?_
    refine xs_f 726 r_286_725 rfl ?_
    refine xs_ald 727 0 r_286_726 (fun _ _ => rfl) rfl rfl rfl (j := (i + 1)) (nI_addE rfl (nI_k 1)) (xarr_r rfl rfl) rfl (by show _ < S.1; omega) (by show S.1 ≤ 65536; omega) rfl ?_
    refine xs_call (lv2 := [(0, _), (1, _)]) r_286_727 rfl rfl (by decide) (xcan_0 rfl rfl (by first | assumption | exact o0 | exact m9) (by rfl)) rfl (m_181 m9 g9 hG (by omega) (fun f2 x2 y2 => ?_))
    refine xK_v rfl ?_
    refine xs_f 732 (lv2 := [(7, _), (6, _), (0, _), (1, _), (2, _), (3, _), (4, _), (5, _)]) r_286_730 rfl ?_
    refine xs_f 733 r_286_732 rfl ?_
    refine xs_call (lv2 := [(0, _)]) r_286_733 rfl rfl (by decide) (xcan_0 rfl rfl x2 (by rfl)) rfl ?_
    refine xs_f 1 r_149_0 rfl ?_
    refine xs_get 4 r_149_1 rfl rfl x2 (by rfl) ?_
    refine xs_ret r_149_4 rfl ?_
    refine xK_v rfl ?_
    refine xs_f 738 r_286_736 rfl ?_
    refine xs_if 743 741 r_286_738 rfl (fun hth => ?_) (fun hth => ?_)
    · refine xs_f 745 r_286_743 rfl ?_
      refine xs_f 767 r_286_745 rfl ?_
      refine xs_f 2897 r_286_767 rfl ?_
      exact xP_lv [(0, .ref 12), (1, .ref 32), (2, .ref 809), (3, .ref 818), (4, .ref 819), (5, .int (nI i))] rfl ⟨rfl, rfl, rfl, rfl, rfl, rfl, trivial⟩ (k _ (hP.q (h2 := (f2, _)) (fun x h1 h2 h3 h4 => (y2 x (by omega)).trans (e9 x h2 h4)) ⟨_, _, _, x2⟩ ⟨_, O9.fr (y2 _ (by omega))⟩ (D9.fr (y2 _ (by omega))) ⟨_, _, _, c9.fr (fun x h1 h2 => y2 x (by omega))⟩ B9))
    · exact absurd (by first | exact congrArg nI z9 | rfl) hth

theorem lw_8 {S : XSc} {d : Nat} {h : XH} {Q : XO → XH → Prop} {i c : Nat} (hi : i + 7 ≤ S.1) (hL : S.1 ≤ 3584) (hc : c ≤ 511) (hI : LwI h c) (k : ∀ h2, LwI h2 (c + 1) → xP S (d + 14) 286 2897 [(0, .ref 12), (1, .ref 32), (2, .ref 809), (3, .ref 818), (4, .ref 819), (5, .int (nI i))] [] h2 Q) : xP S (d + 14) 286 707 [(0, .ref 12), (1, .ref 32), (2, .ref 809), (3, .ref 818), (4, .ref 819), (5, .int (nI i))] [] h Q := by
  obtain ⟨H, Sv, pos, ch, sv, K, ea, fa, G, tn, Bu, on, Le, hP⟩ := hI
  obtain ⟨mn, np, no, nn, N, sc, ho, TS, TH, tr, pl, q, s, R, hB, hr, hk, hN, hs⟩ := id hP.2.1
  have hv : (R_pl np (S.2 (i + 1)) (fun i => bI (gP G i).2.2.1)).2 = 0 ∨ (R_pl np (S.2 (i + 1)) (fun i => bI (gP G i).2.2.1)).2 = 1 := by unfold R_pl; split; exact bI_nn _; exact Or.inl rfl
  rcases hv with hv | hv
  · exact lw_8_0 hi hL hc hP hB hr hk hN hs hv k
  · exact lw_8_1 hi hL hc hP hB hr hk hN hs hv k
theorem lw_12 {S : XSc} {d : Nat} {h : XH} {Q : XO → XH → Prop} {i c : Nat} (hi : i + 7 ≤ S.1) (hL : S.1 ≤ 3584) (hc : c ≤ 511) (hI : LwI h c) (k : ∀ h2, LwI h2 (c + 1) → xP S (d + 14) 286 2897 [(0, .ref 12), (1, .ref 32), (2, .ref 809), (3, .ref 818), (4, .ref 819), (5, .int (nI i))] [] h2 Q) : xP S (d + 14) 286 809 [(0, .ref 12), (1, .ref 32), (2, .ref 809), (3, .ref 818), (4, .ref 819), (5, .int (nI i))] [] h Q := by
  obtain ⟨H, Sv, pos, ch, sv, K, ea, fa, G, tn, Bu, on, Le, hP⟩ := hI
  obtain ⟨hX, hS, ⟨W, lo, hi2, hC⟩, ⟨p0, cc0, nu0, hT⟩, hZ, ⟨B, Mo, Pa, th, sp, wr, hM⟩, ⟨w0, hO⟩, hD, ⟨hK, h8, ht, hon⟩, hcn⟩ := id hP
  obtain ⟨o0, hHi, hSv, G8, hG8⟩ := id hX
  obtain ⟨mn, np, no, nn, N, sc, ho, TS, TH, tr, pl, q, s, R, hB, hr, hk, hN, hs⟩ := id hS
  obtain ⟨hG, ⟨r2, r3, r4⟩, r5, r6, r7, r8⟩ := id hr
  obtain ⟨m0, g0, b0, H0, S0, U0, L0, M0, A0⟩ := id hM
  have np5 := hG.1.2
  have no6 := hG.2.1.2
  have mm5 : ∀ i, i < no → (gQ G mn i).2.2.1 ≤ 5 := fun i hi => (hG.2.2 i (by omega)).2
  have hR : (R_pl no (S.2 (i + 1)) (fun i => (q i).1)) = (R_pl no (S.2 (i + 1)) (fun i => (gQ G mn i).1)) := R_pl_cong (by omega) (fun i hi => (r7 i hi).1) _
  refine xs_f 810 r_286_809 rfl ?_
  refine xs_f 811 r_286_810 rfl ?_
  refine xs_f 813 r_286_811 rfl ?_
  refine xs_f 814 r_286_813 rfl ?_
  refine xs_f 815 r_286_814 rfl ?_
  refine xs_ald 816 0 r_286_815 (fun _ _ => rfl) rfl rfl rfl (j := (i + 1)) (nI_addE rfl (nI_k 1)) (xarr_r rfl rfl) rfl (by show _ < S.1; omega) (by show S.1 ≤ 65536; omega) rfl ?_
  refine xs_f 817 r_286_816 rfl ?_
  refine xs_call (lv2 := [(0, _), (1, _), (2, _)]) r_286_817 rfl rfl (by decide) (xcan_3 rfl rfl) rfl ?_
  refine xs_f 1 r_251_0 rfl ?_
  refine xs_f 2 r_251_1 rfl ?_
  refine xs_f 3 r_251_2 rfl ?_
  refine xs_f 4 r_251_3 rfl ?_
  refine xs_call (lv2 := [(0, _), (1, _)]) r_251_4 rfl rfl (by decide) (xcan_0 rfl rfl (by first | assumption | exact xup_s | exact o0 | exact m9 | (refine (xup_n (by omega)).trans ?_; first | assumption | exact xup_s | exact o0 | exact m9) | (refine (xup_n (by omega)).trans ((xup_n (by omega)).trans ?_); first | assumption | exact xup_s | exact o0 | exact m9) | (refine (xup_n (by omega)).trans ((xup_n (by omega)).trans ((xup_n (by omega)).trans ?_)); first | assumption | exact xup_s | exact o0 | exact m9)) (by rfl)) rfl (e_96 o0 hB (by omega) (fun z9 => ?_) (fun z9 => ?_))
  · rw [hR] at z9
    have q9 : ((R_pl no (S.2 (i + 1)) (fun i => (q i).1)) : XR).2 = (R_pl no (S.2 (i + 1)) (fun i => (gQ G mn i).1)).2 := congrArg Prod.snd hR
    have c8 := hC
    have e8 : ∀ x, (x < 794 ∨ 804 ≤ x) → h.1 x = h.1 x := fun _ _ => rfl
    refine xK_v rfl ?_
    refine xs_f 8 r_251_7 rfl ?_
    refine xs_astL 9 r_251_8 (fun _ _ => rfl) rfl rfl rfl (j := 0) (nI_k 0) hO (by omega) (fun f1 O9 y1 => ?_)
    have z1 : ∀ x, x ≠ 818 → (x < 794 ∨ 804 ≤ x) → f1 x = h.1 x := fun x h1 h2 => (y1 x (by omega)).trans (e8 x h2)
    have e9 := z1
    have c9 := c8.fr (g := f1) (fun x h1 h2 => y1 x (by omega))
    have m9 := (e9 809 (by omega) (by omega)).trans m0
    have g9 := g0.fr (e9 _ (by omega) (by omega))
    have D9 := hD.fr (e9 _ (by omega) (by omega))
    have B9 : h.2 = h.2 ∨ h.2 = (xbump h).2 := Or.inl rfl
    refine xs_f 15 r_251_9 rfl ?_
    refine xs_f 16 r_251_15 rfl ?_
    refine xs_ret r_251_16 rfl ?_
    refine xK_v rfl ?_
    refine xs_f 822 (lv2 := [(6, _), (0, _), (1, _), (2, _), (3, _), (4, _), (5, _)]) r_286_820 rfl ?_
    refine xs_f 823 r_286_822 rfl ?_
    refine xs_f 824 r_286_823 rfl ?_
    refine xs_f 826 r_286_824 rfl ?_
    refine xs_f 827 r_286_826 rfl ?_
    refine xs_f 828 r_286_827 rfl ?_
    refine xs_ald 829 0 r_286_828 (fun _ _ => rfl) rfl rfl rfl (j := (i + 1)) (nI_addE rfl (nI_k 1)) (xarr_r rfl rfl) rfl (by show _ < S.1; omega) (by show S.1 ≤ 65536; omega) rfl ?_
    refine xs_call (lv2 := [(0, _), (1, _)]) r_286_829 rfl rfl (by decide) (xcan_0 rfl rfl (by first | assumption | exact o0 | exact m9) (by rfl)) rfl (m_185 m9 g9 hG (by omega) (fun f2 x2 y2 => ?_))
    refine xK_v rfl ?_
    refine xs_f 834 (lv2 := [(7, _), (6, _), (0, _), (1, _), (2, _), (3, _), (4, _), (5, _)]) r_286_832 rfl ?_
    refine xs_f 835 r_286_834 rfl ?_
    refine xs_call (lv2 := [(0, _)]) r_286_835 rfl rfl (by decide) (xcan_0 rfl rfl x2 (by rfl)) rfl ?_
    refine xs_f 1 r_149_0 rfl ?_
    refine xs_get 4 r_149_1 rfl rfl x2 (by rfl) ?_
    refine xs_ret r_149_4 rfl ?_
    refine xK_v rfl ?_
    refine xs_f 840 r_286_838 rfl ?_
    refine xs_if 845 843 r_286_840 rfl (fun hth => ?_) (fun hth => ?_)
    · refine xs_f 847 r_286_845 rfl ?_
      refine xs_f 850 r_286_847 rfl ?_
      refine xs_f 851 r_286_850 rfl ?_
      refine xs_f 852 r_286_851 rfl ?_
      refine xs_aldL 853 r_286_852 (fun _ _ => rfl) rfl rfl rfl (j := 0) (nI_k 0) (O9.fr (y2 _ (by omega))) (by omega) ?_
      rw [xw_s]
      refine xs_f 855 r_286_853 rfl ?_
      refine xs_f 856 r_286_855 rfl ?_
      refine xs_f 857 r_286_856 rfl ?_
      refine xs_if 862 860 r_286_857 rfl (fun hl => ?_) (fun hl => ?_)
      · refine xs_f 2897 r_286_862 rfl ?_
        exact xP_lv [(0, .ref 12), (1, .ref 32), (2, .ref 809), (3, .ref 818), (4, .ref 819), (5, .int (nI i))] rfl ⟨rfl, rfl, rfl, rfl, rfl, rfl, trivial⟩ (k _ (hP.q (h2 := (f2, _)) (fun x h1 h2 h3 h4 => (y2 x (by omega)).trans (e9 x h2 h4)) ⟨_, _, _, x2⟩ ⟨_, O9.fr (y2 _ (by omega))⟩ (D9.fr (y2 _ (by omega))) ⟨_, _, _, c9.fr (fun x h1 h2 => y2 x (by omega))⟩ B9))
      · exact absurd (by rw [q9]; exact lg_cmp_r _) hl
    · exact absurd (by first | exact congrArg nI z9 | rfl) hth
  · rw [hR] at z9
    have c9 := hC
    have O9 := hO
    have D9 := hD
    have e9 : ∀ x, x ≠ 818 → (x < 794 ∨ 804 ≤ x) → (xbump h).1 x = h.1 x := fun _ _ _ => rfl
    have m9 := (e9 809 (by omega) (by omega)).trans m0
    have g9 := g0.fr (e9 _ (by omega) (by omega))
    have B9 : (xbump h).2 = h.2 ∨ (xbump h).2 = (xbump h).2 := Or.inr rfl
    refine xK_c (lv2 := [(0, _), (1, _), (2, _)]) rfl rfl rfl rfl ?_
    refine xs_f 14 r_251_13 rfl ?_
    refine xs_ret r_251_14 rfl ?_
    refine xK_v rfl ?_
    refine xs_f 822 (lv2 := [(6, _), (0, _), (1, _), (2, _), (3, _), (4, _), (5, _)]) r_286_820 rfl ?_
    refine xs_f 823 r_286_822 rfl ?_
    refine xs_f 824 r_286_823 rfl ?_
    refine xs_f 826 r_286_824 rfl ?_
    refine xs_f 827 r_286_826 rfl ?_
    refine xs_f 828 r_286_827 rfl ?_
    refine xs_ald 829 0 r_286_828 (fun _ _ => rfl) rfl rfl rfl (j := (i + 1)) (nI_addE rfl (nI_k 1)) (xarr_r rfl rfl) rfl (by show _ < S.1; omega) (by show S.1 ≤ 65536; omega) rfl ?_
    refine xs_call (lv2 := [(0, _), (1, _)]) r_286_829 rfl rfl (by decide) (xcan_0 rfl rfl (by first | assumption | exact o0 | exact m9) (by rfl)) rfl (m_185 m9 g9 hG (by omega) (fun f2 x2 y2 => ?_))
    refine xK_v rfl ?_
    refine xs_f 834 (lv2 := [(7, _), (6, _), (0, _), (1, _), (2, _), (3, _), (4, _), (5, _)]) r_286_832 rfl ?_
    refine xs_f 835 r_286_834 rfl ?_
    refine xs_call (lv2 := [(0, _)]) r_286_835 rfl rfl (by decide) (xcan_0 rfl rfl x2 (by rfl)) rfl ?_
    refine xs_f 1 r_149_0 rfl ?_
    refine xs_get 4 r_149_1 rfl rfl x2 (by rfl) ?_
    refine xs_ret r_149_4 rfl ?_
    refine xK_v rfl ?_
    refine xs_f 840 r_286_838 rfl ?_
    refine xs_if 845 843 r_286_840 rfl (fun hth => ?_) (fun hth => ?_)
    · refine xs_f 847 r_286_845 rfl ?_
      refine xs_f 862 r_286_847 rfl ?_
      refine xs_f 2897 r_286_862 rfl ?_
      exact xP_lv [(0, .ref 12), (1, .ref 32), (2, .ref 809), (3, .ref 818), (4, .ref 819), (5, .int (nI i))] rfl ⟨rfl, rfl, rfl, rfl, rfl, rfl, trivial⟩ (k _ (hP.q (h2 := (f2, _)) (fun x h1 h2 h3 h4 => (y2 x (by omega)).trans (e9 x h2 h4)) ⟨_, _, _, x2⟩ ⟨_, O9.fr (y2 _ (by omega))⟩ (D9.fr (y2 _ (by omega))) ⟨_, _, _, c9.fr (fun x h1 h2 => y2 x (by omega))⟩ B9))
    · exact absurd (by first | exact congrArg nI z9 | rfl) hth

theorem lw_13 {S : XSc} {d : Nat} {h : XH} {Q : XO → XH → Prop} {i c : Nat} (hi : i + 7 ≤ S.1) (hL : S.1 ≤ 3584) (hc : c ≤ 511) (hI : LwI h c) (k : ∀ h2, LwI h2 (c + 1) → xP S (d + 14) 286 2897 [(0, .ref 12), (1, .ref 32), (2, .ref 809), (3, .ref 818), (4, .ref 819), (5, .int (nI i))] [] h2 Q) : xP S (d + 14) 286 865 [(0, .ref 12), (1, .ref 32), (2, .ref 809), (3, .ref 818), (4, .ref 819), (5, .int (nI i))] [] h Q := by
  obtain ⟨H, Sv, pos, ch, sv, K, ea, fa, G, tn, Bu, on, Le, hP⟩ := hI
  obtain ⟨hX, hS, ⟨W, lo, hi2, hC⟩, ⟨p0, cc0, nu0, hT⟩, hZ, ⟨B, Mo, Pa, th, sp, wr, hM⟩, ⟨w0, hO⟩, hD, ⟨hK, h8, ht, hon⟩, hcn⟩ := id hP
  obtain ⟨o0, hHi, hSv, G8, hG8⟩ := id hX
  obtain ⟨mn, np, no, nn, N, sc, ho, TS, TH, tr, pl, q, s, R, hB, hr, hk, hN, hs⟩ := id hS
  obtain ⟨hG, ⟨r2, r3, r4⟩, r5, r6, r7, r8⟩ := id hr
  obtain ⟨m0, g0, b0, H0, S0, U0, L0, M0, A0⟩ := id hM
  have np5 := hG.1.2
  have no6 := hG.2.1.2
  have mm5 : ∀ i, i < no → (gQ G mn i).2.2.1 ≤ 5 := fun i hi => (hG.2.2 i (by omega)).2
  have hR : (if pla q no (S.2 (i + 1)) < no then ((0, nI (pla q no (S.2 (i + 1)))) : XR) else (1, 0)) = (if pla (gQ G mn) no (S.2 (i + 1)) < no then ((0, nI (pla (gQ G mn) no (S.2 (i + 1)))) : XR) else (1, 0)) := by rw [pla_cong r7 _]
  refine xs_f 866 r_286_865 rfl ?_
  refine xs_f 867 r_286_866 rfl ?_
  refine xs_f 869 r_286_867 rfl ?_
  refine xs_f 870 r_286_869 rfl ?_
  refine xs_f 871 r_286_870 rfl ?_
  refine xs_ald 872 0 r_286_871 (fun _ _ => rfl) rfl rfl rfl (j := (i + 1)) (nI_addE rfl (nI_k 1)) (xarr_r rfl rfl) rfl (by show _ < S.1; omega) (by show S.1 ≤ 65536; omega) rfl ?_
  refine xs_f 873 r_286_872 rfl ?_
  refine xs_call (lv2 := [(0, _), (1, _), (2, _)]) r_286_873 rfl rfl (by decide) (xcan_3 rfl rfl) rfl ?_
  refine xs_f 1 r_252_0 rfl ?_
  refine xs_f 2 r_252_1 rfl ?_
  refine xs_f 3 r_252_2 rfl ?_
  refine xs_f 4 r_252_3 rfl ?_
  refine xs_call (lv2 := [(0, _), (1, _)]) r_252_4 rfl rfl (by decide) (xcan_0 rfl rfl (by first | assumption | exact xup_s | exact o0 | exact m9 | (refine (xup_n (by omega)).trans ?_; first | assumption | exact xup_s | exact o0 | exact m9) | (refine (xup_n (by omega)).trans ((xup_n (by omega)).trans ?_); first | assumption | exact xup_s | exact o0 | exact m9) | (refine (xup_n (by omega)).trans ((xup_n (by omega)).trans ((xup_n (by omega)).trans ?_)); first | assumption | exact xup_s | exact o0 | exact m9)) (by rfl)) rfl (e_97 o0 hB (by omega) (fun z9 => ?_) (fun z9 => ?_))
  · rw [hR] at z9
    have q9 : ((if pla q no (S.2 (i + 1)) < no then ((0, nI (pla q no (S.2 (i + 1)))) : XR) else (1, 0)) : XR).2 = (if pla (gQ G mn) no (S.2 (i + 1)) < no then ((0, nI (pla (gQ G mn) no (S.2 (i + 1)))) : XR) else (1, 0)).2 := congrArg Prod.snd hR
    have c8 := hC
    have e8 : ∀ x, (x < 794 ∨ 804 ≤ x) → h.1 x = h.1 x := fun _ _ => rfl
    refine xK_v rfl ?_
    refine xs_f 8 r_252_7 rfl ?_
    refine xs_astL 9 r_252_8 (fun _ _ => rfl) rfl rfl rfl (j := 0) (nI_k 0) hO (by omega) (fun f1 O9 y1 => ?_)
    have z1 : ∀ x, x ≠ 818 → (x < 794 ∨ 804 ≤ x) → f1 x = h.1 x := fun x h1 h2 => (y1 x (by omega)).trans (e8 x h2)
    have e9 := z1
    have c9 := c8.fr (g := f1) (fun x h1 h2 => y1 x (by omega))
    have m9 := (e9 809 (by omega) (by omega)).trans m0
    have g9 := g0.fr (e9 _ (by omega) (by omega))
    have D9 := hD.fr (e9 _ (by omega) (by omega))
    have B9 : h.2 = h.2 ∨ h.2 = (xbump h).2 := Or.inl rfl
    refine xs_f 15 r_252_9 rfl ?_
    refine xs_f 16 r_252_15 rfl ?_
    refine xs_ret r_252_16 rfl ?_
    refine xK_v rfl ?_
    refine xs_f 878 (lv2 := [(6, _), (0, _), (1, _), (2, _), (3, _), (4, _), (5, _)]) r_286_876 rfl ?_
    refine xs_f 879 r_286_878 rfl ?_
    refine xs_f 880 r_286_879 rfl ?_
    refine xs_f 882 r_286_880 rfl ?_
    refine xs_f 883 r_286_882 rfl ?_
    refine xs_f 884 r_286_883 rfl ?_
    refine xs_ald 885 0 r_286_884 (fun _ _ => rfl) rfl rfl rfl (j := (i + 1)) (nI_addE rfl (nI_k 1)) (xarr_r rfl rfl) rfl (by show _ < S.1; omega) (by show S.1 ≤ 65536; omega) rfl ?_
    refine xs_call (lv2 := [(0, _), (1, _)]) r_286_885 rfl rfl (by decide) (xcan_0 rfl rfl (by first | assumption | exact o0 | exact m9) (by rfl)) rfl (m_186 m9 g9 hG (by omega) (fun f2 x2 y2 => ?_))
    refine xK_v rfl ?_
    refine xs_f 890 (lv2 := [(7, _), (6, _), (0, _), (1, _), (2, _), (3, _), (4, _), (5, _)]) r_286_888 rfl ?_
    refine xs_f 891 r_286_890 rfl ?_
    refine xs_call (lv2 := [(0, _)]) r_286_891 rfl rfl (by decide) (xcan_0 rfl rfl x2 (by rfl)) rfl ?_
    refine xs_f 1 r_149_0 rfl ?_
    refine xs_get 4 r_149_1 rfl rfl x2 (by rfl) ?_
    refine xs_ret r_149_4 rfl ?_
    refine xK_v rfl ?_
    refine xs_f 896 r_286_894 rfl ?_
    refine xs_if 901 899 r_286_896 rfl (fun hth => ?_) (fun hth => ?_)
    · refine xs_f 903 r_286_901 rfl ?_
      refine xs_f 906 r_286_903 rfl ?_
      refine xs_f 907 r_286_906 rfl ?_
      refine xs_f 908 r_286_907 rfl ?_
      refine xs_aldL 909 r_286_908 (fun _ _ => rfl) rfl rfl rfl (j := 0) (nI_k 0) (O9.fr (y2 _ (by omega))) (by omega) ?_
      rw [xw_s]
      refine xs_f 911 r_286_909 rfl ?_
      refine xs_f 912 r_286_911 rfl ?_
      refine xs_f 913 r_286_912 rfl ?_
      refine xs_if 918 916 r_286_913 rfl (fun hl => ?_) (fun hl => ?_)
      · refine xs_f 2897 r_286_918 rfl ?_
        exact xP_lv [(0, .ref 12), (1, .ref 32), (2, .ref 809), (3, .ref 818), (4, .ref 819), (5, .int (nI i))] rfl ⟨rfl, rfl, rfl, rfl, rfl, rfl, trivial⟩ (k _ (hP.q (h2 := (f2, _)) (fun x h1 h2 h3 h4 => (y2 x (by omega)).trans (e9 x h2 h4)) ⟨_, _, _, x2⟩ ⟨_, O9.fr (y2 _ (by omega))⟩ (D9.fr (y2 _ (by omega))) ⟨_, _, _, c9.fr (fun x h1 h2 => y2 x (by omega))⟩ B9))
      · exact absurd (by rw [q9]; exact lg_cmp_r _) hl
    · exact absurd (by first | exact congrArg nI z9 | rfl) hth
  · rw [hR] at z9
    have c9 := hC
    have O9 := hO
    have D9 := hD
    have e9 : ∀ x, x ≠ 818 → (x < 794 ∨ 804 ≤ x) → (xbump h).1 x = h.1 x := fun _ _ _ => rfl
    have m9 := (e9 809 (by omega) (by omega)).trans m0
    have g9 := g0.fr (e9 _ (by omega) (by omega))
    have B9 : (xbump h).2 = h.2 ∨ (xbump h).2 = (xbump h).2 := Or.inr rfl
    refine xK_c (lv2 := [(0, _), (1, _), (2, _)]) rfl rfl rfl rfl ?_
    refine xs_f 14 r_252_13 rfl ?_
    refine xs_ret r_252_14 rfl ?_
    refine xK_v rfl ?_
    refine xs_f 878 (lv2 := [(6, _), (0, _), (1, _), (2, _), (3, _), (4, _), (5, _)]) r_286_876 rfl ?_
    refine xs_f 879 r_286_878 rfl ?_
    refine xs_f 880 r_286_879 rfl ?_
    refine xs_f 882 r_286_880 rfl ?_
    refine xs_f 883 r_286_882 rfl ?_
    refine xs_f 884 r_286_883 rfl ?_
    refine xs_ald 885 0 r_286_884 (fun _ _ => rfl) rfl rfl rfl (j := (i + 1)) (nI_addE rfl (nI_k 1)) (xarr_r rfl rfl) rfl (by show _ < S.1; omega) (by show S.1 ≤ 65536; omega) rfl ?_
    refine xs_call (lv2 := [(0, _), (1, _)]) r_286_885 rfl rfl (by decide) (xcan_0 rfl rfl (by first | assumption | exact o0 | exact m9) (by rfl)) rfl (m_186 m9 g9 hG (by omega) (fun f2 x2 y2 => ?_))
    refine xK_v rfl ?_
    refine xs_f 890 (lv2 := [(7, _), (6, _), (0, _), (1, _), (2, _), (3, _), (4, _), (5, _)]) r_286_888 rfl ?_
    refine xs_f 891 r_286_890 rfl ?_
    refine xs_call (lv2 := [(0, _)]) r_286_891 rfl rfl (by decide) (xcan_0 rfl rfl x2 (by rfl)) rfl ?_
    refine xs_f 1 r_149_0 rfl ?_
    refine xs_get 4 r_149_1 rfl rfl x2 (by rfl) ?_
    refine xs_ret r_149_4 rfl ?_
    refine xK_v rfl ?_
    refine xs_f 896 r_286_894 rfl ?_
    refine xs_if 901 899 r_286_896 rfl (fun hth => ?_) (fun hth => ?_)
    · refine xs_f 903 r_286_901 rfl ?_
      refine xs_f 918 r_286_903 rfl ?_
      refine xs_f 2897 r_286_918 rfl ?_
      exact xP_lv [(0, .ref 12), (1, .ref 32), (2, .ref 809), (3, .ref 818), (4, .ref 819), (5, .int (nI i))] rfl ⟨rfl, rfl, rfl, rfl, rfl, rfl, trivial⟩ (k _ (hP.q (h2 := (f2, _)) (fun x h1 h2 h3 h4 => (y2 x (by omega)).trans (e9 x h2 h4)) ⟨_, _, _, x2⟩ ⟨_, O9.fr (y2 _ (by omega))⟩ (D9.fr (y2 _ (by omega))) ⟨_, _, _, c9.fr (fun x h1 h2 => y2 x (by omega))⟩ B9))
    · exact absurd (by first | exact congrArg nI z9 | rfl) hth

theorem lw_14 {S : XSc} {d : Nat} {h : XH} {Q : XO → XH → Prop} {i c : Nat} (hi : i + 7 ≤ S.1) (hL : S.1 ≤ 3584) (hc : c ≤ 511) (hI : LwI h c) (k : ∀ h2, LwI h2 (c + 1) → xP S (d + 14) 286 2897 [(0, .ref 12), (1, .ref 32), (2, .ref 809), (3, .ref 818), (4, .ref 819), (5, .int (nI i))] [] h2 Q) : xP S (d + 14) 286 921 [(0, .ref 12), (1, .ref 32), (2, .ref 809), (3, .ref 818), (4, .ref 819), (5, .int (nI i))] [] h Q := by
  obtain ⟨H, Sv, pos, ch, sv, K, ea, fa, G, tn, Bu, on, Le, hP⟩ := hI
  obtain ⟨hX, hS, ⟨W, lo, hi2, hC⟩, ⟨p0, cc0, nu0, hT⟩, hZ, ⟨B, Mo, Pa, th, sp, wr, hM⟩, ⟨w0, hO⟩, hD, ⟨hK, h8, ht, hon⟩, hcn⟩ := id hP
  obtain ⟨o0, hHi, hSv, G8, hG8⟩ := id hX
  obtain ⟨mn, np, no, nn, N, sc, ho, TS, TH, tr, pl, q, s, R, hB, hr, hk, hN, hs⟩ := id hS
  obtain ⟨hG, ⟨r2, r3, r4⟩, r5, r6, r7, r8⟩ := id hr
  obtain ⟨m0, g0, b0, H0, S0, U0, L0, M0, A0⟩ := id hM
  have np5 := hG.1.2
  have no6 := hG.2.1.2
  have mm5 : ∀ i, i < no → (gQ G mn i).2.2.1 ≤ 5 := fun i hi => (hG.2.2 i (by omega)).2
  have hR : (R_q q no (S.2 (i + 1)) (fun q => q.2.1)) = (R_q (gQ G mn) no (S.2 (i + 1)) (fun q => q.2.1)) := R_q_cong r7 (fun x y h => h.2.1) _
  refine xs_f 922 r_286_921 rfl ?_
  refine xs_f 923 r_286_922 rfl ?_
  refine xs_f 925 r_286_923 rfl ?_
  refine xs_f 926 r_286_925 rfl ?_
  refine xs_f 927 r_286_926 rfl ?_
  refine xs_ald 928 0 r_286_927 (fun _ _ => rfl) rfl rfl rfl (j := (i + 1)) (nI_addE rfl (nI_k 1)) (xarr_r rfl rfl) rfl (by show _ < S.1; omega) (by show S.1 ≤ 65536; omega) rfl ?_
  refine xs_f 929 r_286_928 rfl ?_
  refine xs_call (lv2 := [(0, _), (1, _), (2, _)]) r_286_929 rfl rfl (by decide) (xcan_3 rfl rfl) rfl ?_
  refine xs_f 1 r_253_0 rfl ?_
  refine xs_f 2 r_253_1 rfl ?_
  refine xs_f 3 r_253_2 rfl ?_
  refine xs_f 4 r_253_3 rfl ?_
  refine xs_call (lv2 := [(0, _), (1, _)]) r_253_4 rfl rfl (by decide) (xcan_0 rfl rfl (by first | assumption | exact xup_s | exact o0 | exact m9 | (refine (xup_n (by omega)).trans ?_; first | assumption | exact xup_s | exact o0 | exact m9) | (refine (xup_n (by omega)).trans ((xup_n (by omega)).trans ?_); first | assumption | exact xup_s | exact o0 | exact m9) | (refine (xup_n (by omega)).trans ((xup_n (by omega)).trans ((xup_n (by omega)).trans ?_)); first | assumption | exact xup_s | exact o0 | exact m9)) (by rfl)) rfl (e_98 o0 hB (by omega) (fun z9 => ?_) (fun z9 => ?_))
  · rw [hR] at z9
    have q9 : ((R_q q no (S.2 (i + 1)) (fun q => q.2.1)) : XR).2 = (R_q (gQ G mn) no (S.2 (i + 1)) (fun q => q.2.1)).2 := congrArg Prod.snd hR
    have c8 := hC
    have e8 : ∀ x, (x < 794 ∨ 804 ≤ x) → h.1 x = h.1 x := fun _ _ => rfl
    refine xK_v rfl ?_
    refine xs_f 8 r_253_7 rfl ?_
    refine xs_astL 9 r_253_8 (fun _ _ => rfl) rfl rfl rfl (j := 0) (nI_k 0) hO (by omega) (fun f1 O9 y1 => ?_)
    have z1 : ∀ x, x ≠ 818 → (x < 794 ∨ 804 ≤ x) → f1 x = h.1 x := fun x h1 h2 => (y1 x (by omega)).trans (e8 x h2)
    have e9 := z1
    have c9 := c8.fr (g := f1) (fun x h1 h2 => y1 x (by omega))
    have m9 := (e9 809 (by omega) (by omega)).trans m0
    have g9 := g0.fr (e9 _ (by omega) (by omega))
    have D9 := hD.fr (e9 _ (by omega) (by omega))
    have B9 : h.2 = h.2 ∨ h.2 = (xbump h).2 := Or.inl rfl
    refine xs_f 15 r_253_9 rfl ?_
    refine xs_f 16 r_253_15 rfl ?_
    refine xs_ret r_253_16 rfl ?_
    refine xK_v rfl ?_
    refine xs_f 934 (lv2 := [(6, _), (0, _), (1, _), (2, _), (3, _), (4, _), (5, _)]) r_286_932 rfl ?_
    refine xs_f 935 r_286_934 rfl ?_
    refine xs_f 936 r_286_935 rfl ?_
    refine xs_f 938 r_286_936 rfl ?_
    refine xs_f 939 r_286_938 rfl ?_
    refine xs_f 940 r_286_939 rfl ?_
    refine xs_ald 941 0 r_286_940 (fun _ _ => rfl) rfl rfl rfl (j := (i + 1)) (nI_addE rfl (nI_k 1)) (xarr_r rfl rfl) rfl (by show _ < S.1; omega) (by show S.1 ≤ 65536; omega) rfl ?_
    refine xs_call (lv2 := [(0, _), (1, _)]) r_286_941 rfl rfl (by decide) (xcan_0 rfl rfl (by first | assumption | exact o0 | exact m9) (by rfl)) rfl (m_187 m9 g9 hG (by omega) (fun f2 x2 y2 => ?_))
    refine xK_v rfl ?_
    refine xs_f 946 (lv2 := [(7, _), (6, _), (0, _), (1, _), (2, _), (3, _), (4, _), (5, _)]) r_286_944 rfl ?_
    refine xs_f 947 r_286_946 rfl ?_
    refine xs_call (lv2 := [(0, _)]) r_286_947 rfl rfl (by decide) (xcan_0 rfl rfl x2 (by rfl)) rfl ?_
    refine xs_f 1 r_149_0 rfl ?_
    refine xs_get 4 r_149_1 rfl rfl x2 (by rfl) ?_
    refine xs_ret r_149_4 rfl ?_
    refine xK_v rfl ?_
    refine xs_f 952 r_286_950 rfl ?_
    refine xs_if 957 955 r_286_952 rfl (fun hth => ?_) (fun hth => ?_)
    · refine xs_f 959 r_286_957 rfl ?_
      refine xs_f 962 r_286_959 rfl ?_
      refine xs_f 963 r_286_962 rfl ?_
      refine xs_f 964 r_286_963 rfl ?_
      refine xs_aldL 965 r_286_964 (fun _ _ => rfl) rfl rfl rfl (j := 0) (nI_k 0) (O9.fr (y2 _ (by omega))) (by omega) ?_
      rw [xw_s]
      refine xs_f 967 r_286_965 rfl ?_
      refine xs_f 968 r_286_967 rfl ?_
      refine xs_f 969 r_286_968 rfl ?_
      refine xs_if 974 972 r_286_969 rfl (fun hl => ?_) (fun hl => ?_)
      · refine xs_f 2897 r_286_974 rfl ?_
        exact xP_lv [(0, .ref 12), (1, .ref 32), (2, .ref 809), (3, .ref 818), (4, .ref 819), (5, .int (nI i))] rfl ⟨rfl, rfl, rfl, rfl, rfl, rfl, trivial⟩ (k _ (hP.q (h2 := (f2, _)) (fun x h1 h2 h3 h4 => (y2 x (by omega)).trans (e9 x h2 h4)) ⟨_, _, _, x2⟩ ⟨_, O9.fr (y2 _ (by omega))⟩ (D9.fr (y2 _ (by omega))) ⟨_, _, _, c9.fr (fun x h1 h2 => y2 x (by omega))⟩ B9))
      · exact absurd (by rw [q9]; exact lg_cmp_r _) hl
    · exact absurd (by first | exact congrArg nI z9 | rfl) hth
  · rw [hR] at z9
    have c9 := hC
    have O9 := hO
    have D9 := hD
    have e9 : ∀ x, x ≠ 818 → (x < 794 ∨ 804 ≤ x) → (xbump h).1 x = h.1 x := fun _ _ _ => rfl
    have m9 := (e9 809 (by omega) (by omega)).trans m0
    have g9 := g0.fr (e9 _ (by omega) (by omega))
    have B9 : (xbump h).2 = h.2 ∨ (xbump h).2 = (xbump h).2 := Or.inr rfl
    refine xK_c (lv2 := [(0, _), (1, _), (2, _)]) rfl rfl rfl rfl ?_
    refine xs_f 14 r_253_13 rfl ?_
    refine xs_ret r_253_14 rfl ?_
    refine xK_v rfl ?_
    refine xs_f 934 (lv2 := [(6, _), (0, _), (1, _), (2, _), (3, _), (4, _), (5, _)]) r_286_932 rfl ?_
    refine xs_f 935 r_286_934 rfl ?_
    refine xs_f 936 r_286_935 rfl ?_
    refine xs_f 938 r_286_936 rfl ?_
    refine xs_f 939 r_286_938 rfl ?_
    refine xs_f 940 r_286_939 rfl ?_
    refine xs_ald 941 0 r_286_940 (fun _ _ => rfl) rfl rfl rfl (j := (i + 1)) (nI_addE rfl (nI_k 1)) (xarr_r rfl rfl) rfl (by show _ < S.1; omega) (by show S.1 ≤ 65536; omega) rfl ?_
    refine xs_call (lv2 := [(0, _), (1, _)]) r_286_941 rfl rfl (by decide) (xcan_0 rfl rfl (by first | assumption | exact o0 | exact m9) (by rfl)) rfl (m_187 m9 g9 hG (by omega) (fun f2 x2 y2 => ?_))
    refine xK_v rfl ?_
    refine xs_f 946 (lv2 := [(7, _), (6, _), (0, _), (1, _), (2, _), (3, _), (4, _), (5, _)]) r_286_944 rfl ?_
    refine xs_f 947 r_286_946 rfl ?_
    refine xs_call (lv2 := [(0, _)]) r_286_947 rfl rfl (by decide) (xcan_0 rfl rfl x2 (by rfl)) rfl ?_
    refine xs_f 1 r_149_0 rfl ?_
    refine xs_get 4 r_149_1 rfl rfl x2 (by rfl) ?_
    refine xs_ret r_149_4 rfl ?_
    refine xK_v rfl ?_
    refine xs_f 952 r_286_950 rfl ?_
    refine xs_if 957 955 r_286_952 rfl (fun hth => ?_) (fun hth => ?_)
    · refine xs_f 959 r_286_957 rfl ?_
      refine xs_f 974 r_286_959 rfl ?_
      refine xs_f 2897 r_286_974 rfl ?_
      exact xP_lv [(0, .ref 12), (1, .ref 32), (2, .ref 809), (3, .ref 818), (4, .ref 819), (5, .int (nI i))] rfl ⟨rfl, rfl, rfl, rfl, rfl, rfl, trivial⟩ (k _ (hP.q (h2 := (f2, _)) (fun x h1 h2 h3 h4 => (y2 x (by omega)).trans (e9 x h2 h4)) ⟨_, _, _, x2⟩ ⟨_, O9.fr (y2 _ (by omega))⟩ (D9.fr (y2 _ (by omega))) ⟨_, _, _, c9.fr (fun x h1 h2 => y2 x (by omega))⟩ B9))
    · exact absurd (by first | exact congrArg nI z9 | rfl) hth

theorem lw_15 {S : XSc} {d : Nat} {h : XH} {Q : XO → XH → Prop} {i c : Nat} (hi : i + 7 ≤ S.1) (hL : S.1 ≤ 3584) (hc : c ≤ 511) (hI : LwI h c) (k : ∀ h2, LwI h2 (c + 1) → xP S (d + 14) 286 2897 [(0, .ref 12), (1, .ref 32), (2, .ref 809), (3, .ref 818), (4, .ref 819), (5, .int (nI i))] [] h2 Q) : xP S (d + 14) 286 977 [(0, .ref 12), (1, .ref 32), (2, .ref 809), (3, .ref 818), (4, .ref 819), (5, .int (nI i))] [] h Q := by
  obtain ⟨H, Sv, pos, ch, sv, K, ea, fa, G, tn, Bu, on, Le, hP⟩ := hI
  obtain ⟨hX, hS, ⟨W, lo, hi2, hC⟩, ⟨p0, cc0, nu0, hT⟩, hZ, ⟨B, Mo, Pa, th, sp, wr, hM⟩, ⟨w0, hO⟩, hD, ⟨hK, h8, ht, hon⟩, hcn⟩ := id hP
  obtain ⟨o0, hHi, hSv, G8, hG8⟩ := id hX
  obtain ⟨mn, np, no, nn, N, sc, ho, TS, TH, tr, pl, q, s, R, hB, hr, hk, hN, hs⟩ := id hS
  obtain ⟨hG, ⟨r2, r3, r4⟩, r5, r6, r7, r8⟩ := id hr
  obtain ⟨m0, g0, b0, H0, S0, U0, L0, M0, A0⟩ := id hM
  have np5 := hG.1.2
  have no6 := hG.2.1.2
  have mm5 : ∀ i, i < no → (gQ G mn i).2.2.1 ≤ 5 := fun i hi => (hG.2.2 i (by omega)).2
  have hR : (R_q q no (S.2 (i + 1)) (fun q => nI q.2.2.1)) = (R_q (gQ G mn) no (S.2 (i + 1)) (fun q => nI q.2.2.1)) := R_q_cong r7 (fun x y h => congrArg nI h.2.2.1) _
  refine xs_f 978 r_286_977 rfl ?_
  refine xs_f 979 r_286_978 rfl ?_
  refine xs_f 981 r_286_979 rfl ?_
  refine xs_f 982 r_286_981 rfl ?_
  refine xs_f 983 r_286_982 rfl ?_
  refine xs_ald 984 0 r_286_983 (fun _ _ => rfl) rfl rfl rfl (j := (i + 1)) (nI_addE rfl (nI_k 1)) (xarr_r rfl rfl) rfl (by show _ < S.1; omega) (by show S.1 ≤ 65536; omega) rfl ?_
  refine xs_f 985 r_286_984 rfl ?_
  refine xs_call (lv2 := [(0, _), (1, _), (2, _)]) r_286_985 rfl rfl (by decide) (xcan_3 rfl rfl) rfl ?_
  refine xs_f 1 r_254_0 rfl ?_
  refine xs_f 2 r_254_1 rfl ?_
  refine xs_f 3 r_254_2 rfl ?_
  refine xs_f 4 r_254_3 rfl ?_
  refine xs_call (lv2 := [(0, _), (1, _)]) r_254_4 rfl rfl (by decide) (xcan_0 rfl rfl (by first | assumption | exact xup_s | exact o0 | exact m9 | (refine (xup_n (by omega)).trans ?_; first | assumption | exact xup_s | exact o0 | exact m9) | (refine (xup_n (by omega)).trans ((xup_n (by omega)).trans ?_); first | assumption | exact xup_s | exact o0 | exact m9) | (refine (xup_n (by omega)).trans ((xup_n (by omega)).trans ((xup_n (by omega)).trans ?_)); first | assumption | exact xup_s | exact o0 | exact m9)) (by rfl)) rfl (e_99 o0 hB (by omega) (fun z9 => ?_) (fun z9 => ?_))
  · rw [hR] at z9
    have q9 : ((R_q q no (S.2 (i + 1)) (fun q => nI q.2.2.1)) : XR).2 = (R_q (gQ G mn) no (S.2 (i + 1)) (fun q => nI q.2.2.1)).2 := congrArg Prod.snd hR
    have c8 := hC
    have e8 : ∀ x, (x < 794 ∨ 804 ≤ x) → h.1 x = h.1 x := fun _ _ => rfl
    refine xK_v rfl ?_
    refine xs_f 8 r_254_7 rfl ?_
    refine xs_astL 9 r_254_8 (fun _ _ => rfl) rfl rfl rfl (j := 0) (nI_k 0) hO (by omega) (fun f1 O9 y1 => ?_)
    have z1 : ∀ x, x ≠ 818 → (x < 794 ∨ 804 ≤ x) → f1 x = h.1 x := fun x h1 h2 => (y1 x (by omega)).trans (e8 x h2)
    have e9 := z1
    have c9 := c8.fr (g := f1) (fun x h1 h2 => y1 x (by omega))
    have m9 := (e9 809 (by omega) (by omega)).trans m0
    have g9 := g0.fr (e9 _ (by omega) (by omega))
    have D9 := hD.fr (e9 _ (by omega) (by omega))
    have B9 : h.2 = h.2 ∨ h.2 = (xbump h).2 := Or.inl rfl
    refine xs_f 15 r_254_9 rfl ?_
    refine xs_f 16 r_254_15 rfl ?_
    refine xs_ret r_254_16 rfl ?_
    refine xK_v rfl ?_
    refine xs_f 990 (lv2 := [(6, _), (0, _), (1, _), (2, _), (3, _), (4, _), (5, _)]) r_286_988 rfl ?_
    refine xs_f 991 r_286_990 rfl ?_
    refine xs_f 992 r_286_991 rfl ?_
    refine xs_f 994 r_286_992 rfl ?_
    refine xs_f 995 r_286_994 rfl ?_
    refine xs_f 996 r_286_995 rfl ?_
    refine xs_ald 997 0 r_286_996 (fun _ _ => rfl) rfl rfl rfl (j := (i + 1)) (nI_addE rfl (nI_k 1)) (xarr_r rfl rfl) rfl (by show _ < S.1; omega) (by show S.1 ≤ 65536; omega) rfl ?_
    refine xs_call (lv2 := [(0, _), (1, _)]) r_286_997 rfl rfl (by decide) (xcan_0 rfl rfl (by first | assumption | exact o0 | exact m9) (by rfl)) rfl (m_188 m9 g9 hG (by omega) (fun f2 x2 y2 => ?_))
    refine xK_v rfl ?_
    refine xs_f 1002 (lv2 := [(7, _), (6, _), (0, _), (1, _), (2, _), (3, _), (4, _), (5, _)]) r_286_1000 rfl ?_
    refine xs_f 1003 r_286_1002 rfl ?_
    refine xs_call (lv2 := [(0, _)]) r_286_1003 rfl rfl (by decide) (xcan_0 rfl rfl x2 (by rfl)) rfl ?_
    refine xs_f 1 r_149_0 rfl ?_
    refine xs_get 4 r_149_1 rfl rfl x2 (by rfl) ?_
    refine xs_ret r_149_4 rfl ?_
    refine xK_v rfl ?_
    refine xs_f 1008 r_286_1006 rfl ?_
    refine xs_if 1013 1011 r_286_1008 rfl (fun hth => ?_) (fun hth => ?_)
    · refine xs_f 1015 r_286_1013 rfl ?_
      refine xs_f 1018 r_286_1015 rfl ?_
      refine xs_f 1019 r_286_1018 rfl ?_
      refine xs_f 1020 r_286_1019 rfl ?_
      refine xs_aldL 1021 r_286_1020 (fun _ _ => rfl) rfl rfl rfl (j := 0) (nI_k 0) (O9.fr (y2 _ (by omega))) (by omega) ?_
      rw [xw_s]
      refine xs_f 1023 r_286_1021 rfl ?_
      refine xs_f 1024 r_286_1023 rfl ?_
      refine xs_f 1025 r_286_1024 rfl ?_
      refine xs_if 1030 1028 r_286_1025 rfl (fun hl => ?_) (fun hl => ?_)
      · refine xs_f 2897 r_286_1030 rfl ?_
        exact xP_lv [(0, .ref 12), (1, .ref 32), (2, .ref 809), (3, .ref 818), (4, .ref 819), (5, .int (nI i))] rfl ⟨rfl, rfl, rfl, rfl, rfl, rfl, trivial⟩ (k _ (hP.q (h2 := (f2, _)) (fun x h1 h2 h3 h4 => (y2 x (by omega)).trans (e9 x h2 h4)) ⟨_, _, _, x2⟩ ⟨_, O9.fr (y2 _ (by omega))⟩ (D9.fr (y2 _ (by omega))) ⟨_, _, _, c9.fr (fun x h1 h2 => y2 x (by omega))⟩ B9))
      · exact absurd (by rw [q9]; exact lg_cmp_r _) hl
    · exact absurd (by first | exact congrArg nI z9 | rfl) hth
  · rw [hR] at z9
    have c9 := hC
    have O9 := hO
    have D9 := hD
    have e9 : ∀ x, x ≠ 818 → (x < 794 ∨ 804 ≤ x) → (xbump h).1 x = h.1 x := fun _ _ _ => rfl
    have m9 := (e9 809 (by omega) (by omega)).trans m0
    have g9 := g0.fr (e9 _ (by omega) (by omega))
    have B9 : (xbump h).2 = h.2 ∨ (xbump h).2 = (xbump h).2 := Or.inr rfl
    refine xK_c (lv2 := [(0, _), (1, _), (2, _)]) rfl rfl rfl rfl ?_
    refine xs_f 14 r_254_13 rfl ?_
    refine xs_ret r_254_14 rfl ?_
    refine xK_v rfl ?_
    refine xs_f 990 (lv2 := [(6, _), (0, _), (1, _), (2, _), (3, _), (4, _), (5, _)]) r_286_988 rfl ?_
    refine xs_f 991 r_286_990 rfl ?_
    refine xs_f 992 r_286_991 rfl ?_
    refine xs_f 994 r_286_992 rfl ?_
    refine xs_f 995 r_286_994 rfl ?_
    refine xs_f 996 r_286_995 rfl ?_
    refine xs_ald 997 0 r_286_996 (fun _ _ => rfl) rfl rfl rfl (j := (i + 1)) (nI_addE rfl (nI_k 1)) (xarr_r rfl rfl) rfl (by show _ < S.1; omega) (by show S.1 ≤ 65536; omega) rfl ?_
    refine xs_call (lv2 := [(0, _), (1, _)]) r_286_997 rfl rfl (by decide) (xcan_0 rfl rfl (by first | assumption | exact o0 | exact m9) (by rfl)) rfl (m_188 m9 g9 hG (by omega) (fun f2 x2 y2 => ?_))
    refine xK_v rfl ?_
    refine xs_f 1002 (lv2 := [(7, _), (6, _), (0, _), (1, _), (2, _), (3, _), (4, _), (5, _)]) r_286_1000 rfl ?_
    refine xs_f 1003 r_286_1002 rfl ?_
    refine xs_call (lv2 := [(0, _)]) r_286_1003 rfl rfl (by decide) (xcan_0 rfl rfl x2 (by rfl)) rfl ?_
    refine xs_f 1 r_149_0 rfl ?_
    refine xs_get 4 r_149_1 rfl rfl x2 (by rfl) ?_
    refine xs_ret r_149_4 rfl ?_
    refine xK_v rfl ?_
    refine xs_f 1008 r_286_1006 rfl ?_
    refine xs_if 1013 1011 r_286_1008 rfl (fun hth => ?_) (fun hth => ?_)
    · refine xs_f 1015 r_286_1013 rfl ?_
      refine xs_f 1030 r_286_1015 rfl ?_
      refine xs_f 2897 r_286_1030 rfl ?_
      exact xP_lv [(0, .ref 12), (1, .ref 32), (2, .ref 809), (3, .ref 818), (4, .ref 819), (5, .int (nI i))] rfl ⟨rfl, rfl, rfl, rfl, rfl, rfl, trivial⟩ (k _ (hP.q (h2 := (f2, _)) (fun x h1 h2 h3 h4 => (y2 x (by omega)).trans (e9 x h2 h4)) ⟨_, _, _, x2⟩ ⟨_, O9.fr (y2 _ (by omega))⟩ (D9.fr (y2 _ (by omega))) ⟨_, _, _, c9.fr (fun x h1 h2 => y2 x (by omega))⟩ B9))
    · exact absurd (by first | exact congrArg nI z9 | rfl) hth

