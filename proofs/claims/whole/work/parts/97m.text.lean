/-! the law: what is written, the text, means and shares -/
def DV (f : Nat → Option XE) (a : Nat) (x : UInt64) : Prop := ∃ F : Nat → UInt64, f a = some (.inl (2, (1, .inr (.inr (.inr (.inl F)))))) ∧ F 0 = x
theorem DV.fr {f g : Nat → Option XE} {a : Nat} {x : UInt64} (h : DV f a x) (e : g a = f a) : DV g a x := by
  obtain ⟨F, h1, h2⟩ := h
  exact ⟨F, e.trans h1, h2⟩
theorem DV.A {f : Nat → Option XE} {a : Nat} {x : UInt64} (h : DV f a x) : DA f a 1 := by
  obtain ⟨F, h1, h2⟩ := h
  exact ⟨F, h1⟩
section XDV
variable {S : XSc} {d mid pc : Nat} {lv : XLv} {st : List Value} {h : XH} {Q : XO → XH → Prop} {k0 : XK} {a : Nat}
theorem xs_astD (pc2 : Nat) (hr : xT.1 mid pc = some (.dastore, k0)) (hp : pc + 1 = pc2) (ha : DA h.1 a 1) {x : UInt64} (k : ∀ f, DV f a x → Fr h.1 f a (a + 1) → xP S d mid pc2 lv st (f, h.2) Q) : xP S d mid pc lv (.double x :: .int 0 :: .ref a :: st) h Q := by
  obtain ⟨F, h1⟩ := ha
  exact xs_ast pc2 2 hr (fun _ _ => rfl) hp rfl rfl (j := 0) rfl h1 rfl (by show 0 < 1; decide) (by show 1 ≤ 65536; decide) rfl (k _ ⟨_, xup_s, if_pos rfl⟩ (Fr.up (Nat.le_refl _) (Nat.lt_succ_self _)))
theorem xs_aldD (pc2 : Nat) (hr : xT.1 mid pc = some (.daload, k0)) (hp : pc + 1 = pc2) {x : UInt64} (ha : DV h.1 a x) (h32 : 32 ≤ a) (k : xP S d mid pc2 lv (.double x :: st) h Q) : xP S d mid pc lv (.int 0 :: .ref a :: st) h Q := by
  obtain ⟨F, h1, h2⟩ := ha
  exact xs_ald pc2 2 hr (fun _ _ => rfl) hp rfl rfl (j := 0) rfl (xarr_h h32 h1) rfl (by show 0 < 1; decide) (by show 1 ≤ 65536; decide) (show Value.double (F 0) = _ by rw [h2]) k
theorem xs_f2d (pc2 : Nat) (hr : xT.1 mid pc = some (.f2d, k0)) (hp : pc + 1 = pc2) {x : UInt32} (hx : x &&& 0x7fffffff ≤ 0x7f800000) (k : xP S d mid pc2 lv (.double (FP.f2d x) :: st) h Q) : xP S d mid pc lv (.float x :: st) h Q := by
  subst hp
  refine xs_f (pc + 1) hr ?_ k
  show xgoS (pc + 1) lv (xF2D (.float x :: st)) = _
  rw [show xF2D (.float x :: st) = some (.double (FP.f2d x) :: st) from if_pos (Jvm.Free.Fl.f2d_out hx)]
  rfl
end XDV
theorem dc_self {x : UInt64} (h : x &&& 0x7fffffffffffffff ≤ 0x7ff0000000000000) : Op.cmpValue (FP.dcmp x x) .l = 0 := by
  rw [show FP.dcmp x x = some .eq from Jvm.FP.Core.dcmp_refl (Jvm.Free.Fl.noNaN64_no.mp h)]
  rfl
theorem isPl_jj {i n : Nat} (hi : i < n) (hn : n ≤ 1000) : isPl n (nI i) := ⟨(nI_leN (nI_k 0) rfl (by omega) (by omega)).mpr (Nat.zero_le _), (nI_ltN rfl rfl (by omega) (by omega)).mpr hi⟩
theorem SbX.c {B0 n : Nat} {L : Nat → Int32} {h : XH} (hX : SbX B0 h n L) : ∀ i, i < n → vp_nar .char (L i) = L i := fun i hi => by
  obtain ⟨cap, v, Bt, k, hC⟩ := hX
  obtain ⟨x9, hx9, ex9⟩ := hC.2.2.2.1 i (by have := hC.2.2.2.2.1.1; omega)
  rw [← hC.2.2.1 i hi, ex9]
  exact (chr_ok hx9).2
theorem wrS_cong {E F : Nat → XEst} {s : XL} : ∀ {r : Nat}, (∀ k, k < r → E k = F k) → wrS E s r = wrS F s r
  | 0, _ => rfl
  | r + 1, h => by
    show wrE (E r) (wrS E s r) = wrE (F r) (wrS F s r)
    rw [wrS_cong (r := r) (fun k hk => h k (by omega)), h r (by omega)]
theorem okW_of {np : Nat} (h5 : np ≤ 5) {e : XEst} (h : okEst np e) : okW e := by
  obtain ⟨⟨i, hi, e1⟩, ⟨l, u, e2, e3, h1, h2⟩, hc, -⟩ := h
  obtain ⟨j, j1, j9, e4⟩ := xconf_nI hc
  exact ⟨i, l, u, j, ⟨e1, by omega⟩, ⟨e2, by omega⟩, ⟨e3, by omega⟩, ⟨e4, by omega⟩⟩
theorem LwP.w {h h2 : XH} {c : Nat} {H Sv : Nat → Int32} {pos ch : Nat} {sv : Bool} {K : Nat} {ea fa : Int32} {G : Nat → Int32} {tn : Nat} {Bu : Nat → Int32} {on : Nat} {Le : Nat → Int32} (hP : LwP h c H Sv pos ch sv K ea fa G tn Bu on Le) {on2 : Nat} {Le2 : Nat → Int32} (e : ∀ x, x < 820 → x ≠ 807 → x ≠ 808 → x ≠ 809 → x ≠ 815 → x ≠ 818 → h2.1 x = h.1 x) (hZ : SbX 820 h2 on2 Le2) (hm : ∃ th sp wr, h2.1 809 = some (.inr (9, mO 809 (nI ch) (bI sv) (nI tn) ea fa (nI on2) th sp wr))) (hl : IA h2.1 3 815 100 Le2) (hO : ∃ w, LA h2.1 818 1 w) (hon : on2 ≤ 100) (hcn : h2.2.2.1 ≤ 900 + 100 * (c + 1) ∧ h2.2.2.2 ≤ 9000 + 13400 * (c + 1)) : LwI h2 (c + 1) := by
  obtain ⟨hX, hS, ⟨W, lo, hi, hC⟩, ⟨p0, cc0, nu0, hT⟩, -, ⟨B, Mo, Pa, th, sp, wr, m0, g0, b0, H0, S0, U0, L0, M0, A0⟩, -, hD, ⟨k1, k2, k3, k4⟩, -⟩ := hP
  obtain ⟨th2, sp2, wr2, m2⟩ := hm
  have e' : ∀ x, x < 820 → (x < 807 ∨ (809 < x ∧ x < 815) ∨ (815 < x ∧ x < 818) ∨ x = 819) → h2.1 x = h.1 x := fun x h1 h2 => e x h1 (by omega) (by omega) (by omega) (by omega) (by omega)
  exact ⟨H, Sv, pos, ch, sv, K, ea, fa, G, tn, Bu, on2, Le2, hX.fr (fun x hx => e' x (by omega) (by omega)), hS.fr (fun x h1 h2 => e' x (by omega) (by omega)), ⟨W, lo, hi, hC.fr (fun x h1 h2 => e' x (by omega) (by omega))⟩, ⟨p0, cc0, nu0, hT.fr (fun x h1 h2 => e' x (by omega) (by omega))⟩, hZ,
    ⟨B, Mo, Pa, th2, sp2, wr2, m2, g0.fr (e' _ (by omega) (by omega)), b0.fr (e' _ (by omega) (by omega)), H0.fr (e' _ (by omega) (by omega)), S0.fr (e' _ (by omega) (by omega)), U0.fr (e' _ (by omega) (by omega)), hl, M0.fr (e' _ (by omega) (by omega)), A0.fr (e' _ (by omega) (by omega))⟩, hO, hD.fr (e' _ (by omega) (by omega)), ⟨by omega, k2, k3, hon⟩, hcn⟩
theorem lw_46 {S : XSc} {d : Nat} {h : XH} {Q : XO → XH → Prop} {i c : Nat} (hi : i + 7 ≤ S.1) (hL : S.1 ≤ 3584) (hc : c ≤ 511) (hI : LwI h c) (k : ∀ h2, LwI h2 (c + 1) → xP S (d + 14) 286 2897 [(0, .ref 12), (1, .ref 32), (2, .ref 809), (3, .ref 818), (4, .ref 819), (5, .int (nI i))] [] h2 Q) : xP S (d + 14) 286 2727 [(0, .ref 12), (1, .ref 32), (2, .ref 809), (3, .ref 818), (4, .ref 819), (5, .int (nI i))] [] h Q := by
  obtain ⟨H, Sv, pos, ch, sv, K, ea, fa, G, tn, Bu, on, Le, hP⟩ := hI
  obtain ⟨hX, hS, ⟨W, lo, hi2, hC⟩, ⟨p0, cc0, nu0, hT⟩, hZ, ⟨B, Mo, Pa, th, sp, wr, hM⟩, ⟨w0, hO⟩, hD, ⟨hK, h8, ht, hon⟩, hcn⟩ := id hP
  obtain ⟨o0, hHi, hSv, G8, hG8⟩ := id hX
  obtain ⟨mn, np, no, nn, N, sc, ho, TS, TH, tr, pl, q, s, R, hB, hr, hk, hN, hs⟩ := id hS
  obtain ⟨hG, ⟨r2, r3, r4⟩, r5, r6, r7, r8⟩ := id hr
  obtain ⟨m0, g0, b0, H0, S0, U0, L0, M0, A0⟩ := id hM
  have np5 := hG.1.2
  have no6 := hG.2.1.2
  have mm5 : ∀ i, i < no → (gQ G mn i).2.2.1 ≤ 5 := fun i hi => (hG.2.2 i (by omega)).2
  refine xs_f 2728 r_286_2727 rfl ?_
  refine xs_f 2729 r_286_2728 rfl ?_
  refine xs_f 2731 r_286_2729 rfl ?_
  refine xs_f 2732 r_286_2731 rfl ?_
  refine xs_f 2733 r_286_2732 rfl ?_
  refine xs_ald 2734 0 r_286_2733 (fun _ _ => rfl) rfl rfl rfl (j := (i + 1)) (nI_addE rfl (nI_k 1)) (xarr_r rfl rfl) rfl (by show _ < S.1; omega) (by show S.1 ≤ 65536; omega) rfl ?_
  refine xs_f 2735 r_286_2734 rfl ?_
  refine xs_call (lv2 := [(0, _), (1, _), (2, _)]) r_286_2735 rfl rfl (by decide) (xcan_3 rfl rfl) rfl ?_
  refine xs_f 1 r_283_0 rfl ?_
  refine xs_f 2 r_283_1 rfl ?_
  refine xs_f 3 r_283_2 rfl ?_
  refine xs_f 4 r_283_3 rfl ?_
  refine xs_call (lv2 := [(0, _), (1, _)]) r_283_4 rfl rfl (by decide) (xcan_0 rfl rfl (by first | assumption | exact xup_s | exact o0 | exact M9.1 | (refine (xup_n (by omega)).trans ?_; first | assumption | exact xup_s | exact o0 | exact M9.1) | (refine (xup_n (by omega)).trans ((xup_n (by omega)).trans ?_); first | assumption | exact xup_s | exact o0 | exact M9.1) | (refine (xup_n (by omega)).trans ((xup_n (by omega)).trans ((xup_n (by omega)).trans ?_)); first | assumption | exact xup_s | exact o0 | exact M9.1)) (by rfl)) rfl (e_130 o0 hZ (by omega) (fun z9 => ?_) (fun i1 hi1 hp1 => ?_))
  · have zM : (1 : Nat) = 1 := rfl
    have X8 := hX
    have S8 := hS
    have T8 : ∃ p cc nu, TxP h.1 804 tn p cc Bu nu := ⟨_, _, _, hT⟩
    have e8 : ∀ x, (((794 ≤ x ∧ x < 804) ∨ 807 ≤ x)) → h.1 x = h.1 x := fun _ _ => rfl
    have X9 := X8
    have S9 := S8
    have T9 := T8
    have O9 : LA (xbump (h.1, h.2)).1 818 1 w0 := hO.fr (e8 818 (by omega))
    have e9 : ∀ x, (((794 ≤ x ∧ x < 804) ∨ 807 ≤ x)) → x ≠ 818 → (xbump (h.1, h.2)).1 x = h.1 x := fun x h1 h2 => e8 x h1
    have M9 := hM.fr (fun x z1 z2 => e9 x (by omega) (by omega))
    have B9 : (xbump (h.1, h.2)).2 = h.2 ∨ (xbump (h.1, h.2)).2 = (xbump h).2 := Or.inr rfl
    refine xK_c (lv2 := [(0, _), (1, _), (2, _)]) rfl rfl rfl rfl ?_
    refine xs_f 14 r_283_13 rfl ?_
    refine xs_ret r_283_14 rfl ?_
    refine xK_v rfl ?_
    refine xs_f 2740 (lv2 := [(6, _), (0, _), (1, _), (2, _), (3, _), (4, _), (5, _)]) r_286_2738 rfl ?_
    refine xs_f 2741 r_286_2740 rfl ?_
    refine xs_f 2742 r_286_2741 rfl ?_
    refine xs_f 2744 r_286_2742 rfl ?_
    refine xs_f 2745 r_286_2744 rfl ?_
    refine xs_f 2746 r_286_2745 rfl ?_
    refine xs_ald 2747 0 r_286_2746 (fun _ _ => rfl) rfl rfl rfl (j := (i + 1)) (nI_addE rfl (nI_k 1)) (xarr_r rfl rfl) rfl (by show _ < S.1; omega) (by show S.1 ≤ 65536; omega) rfl ?_
    refine xs_call (lv2 := [(0, _), (1, _)]) r_286_2747 rfl rfl (by decide) (xcan_0 rfl rfl M9.1 (by rfl)) rfl (m_238 M9 hG (by omega) h8 (on := on) rfl (by omega) hZ.c (fun hc f2 M2 y2 => ?_) (fun i2 hi2 hp2 => absurd (by rw [hp2]; exact isPl_jj hi2 (by omega)) z9))
    refine xK_v rfl ?_
    refine xs_f 2752 (lv2 := [(7, _), (6, _), (0, _), (1, _), (2, _), (3, _), (4, _), (5, _)]) r_286_2750 rfl ?_
    refine xs_f 2753 r_286_2752 rfl ?_
    refine xs_call (lv2 := [(0, _)]) r_286_2753 rfl rfl (by decide) (xcan_0 rfl rfl M2.1 (by rfl)) rfl ?_
    refine xs_f 1 r_149_0 rfl ?_
    refine xs_get 4 r_149_1 rfl rfl M2.1 (by rfl) ?_
    refine xs_ret r_149_4 rfl ?_
    refine xK_v rfl ?_
    refine xs_f 2758 r_286_2756 rfl ?_
    refine xs_f 2763 r_286_2758 rfl ?_
    refine xs_f 2765 r_286_2763 rfl ?_
    refine xs_f 2780 r_286_2765 rfl ?_
    refine xs_f 2897 r_286_2780 rfl ?_
    obtain ⟨p9, c9, n9, t9⟩ := T9
    exact xP_lv [(0, .ref 12), (1, .ref 32), (2, .ref 809), (3, .ref 818), (4, .ref 819), (5, .int (nI i))] rfl ⟨rfl, rfl, rfl, rfl, rfl, rfl, trivial⟩ (k _ (hP.p (h2 := (f2, _)) (X9.fr (fun x hx => y2 x (by omega))) (S9.fr (fun x z1 z2 => y2 x (by omega))) ⟨p9, c9, n9, t9.fr (fun x z1 z2 => y2 x (by omega))⟩ ⟨_, _, _, _, _, _, M2⟩ ⟨_, O9.fr (y2 _ (by omega))⟩ (fun x hx => (y2 x (by omega)).trans (e9 x (by omega) (by omega))) B9 (by omega) (by omega) (by omega)))
  · have z9 : isPl on (S.2 (i + 1)) := by
      rw [hp1]
      exact isPl_jj hi1 (by omega)
    have X8 := hX
    have S8 := hS
    have T8 : ∃ p cc nu, TxP h.1 804 tn p cc Bu nu := ⟨_, _, _, hT⟩
    have f8 := h.1
    have e8 : ∀ x, (((794 ≤ x ∧ x < 804) ∨ 807 ≤ x)) → h.1 x = h.1 x := fun _ _ => rfl
    refine xK_v rfl ?_
    refine xs_f 8 r_283_7 rfl ?_
    refine xs_astL 9 r_283_8 (fun _ _ => rfl) rfl rfl rfl (j := 0) (nI_k 0) (hO.fr (e8 818 (by omega))) (by omega) (fun f1 O9 y1 => ?_)
    have X9 := X8.fr (g := f1) (fun x hx => y1 x (by omega))
    have S9 := S8.fr (g := f1) (fun x z1 z2 => y1 x (by omega))
    obtain ⟨p8, c8, n8, t8⟩ := T8
    have T9 : ∃ p cc nu, TxP f1 804 _ p cc _ nu := ⟨p8, c8, n8, t8.fr (fun x z1 z2 => y1 x (by omega))⟩
    have e9 : ∀ x, (((794 ≤ x ∧ x < 804) ∨ 807 ≤ x)) → x ≠ 818 → f1 x = h.1 x := fun x h1 h2 => (y1 x (by omega)).trans (e8 x h1)
    have M9 := hM.fr (fun x z1 z2 => e9 x (by omega) (by omega))
    have B9 : h.2 = h.2 ∨ h.2 = (xbump h).2 := Or.inl rfl
    refine xs_f 15 r_283_9 rfl ?_
    refine xs_f 16 r_283_15 rfl ?_
    refine xs_ret r_283_16 rfl ?_
    refine xK_v rfl ?_
    refine xs_f 2740 (lv2 := [(6, _), (0, _), (1, _), (2, _), (3, _), (4, _), (5, _)]) r_286_2738 rfl ?_
    refine xs_f 2741 r_286_2740 rfl ?_
    refine xs_f 2742 r_286_2741 rfl ?_
    refine xs_f 2744 r_286_2742 rfl ?_
    refine xs_f 2745 r_286_2744 rfl ?_
    refine xs_f 2746 r_286_2745 rfl ?_
    refine xs_ald 2747 0 r_286_2746 (fun _ _ => rfl) rfl rfl rfl (j := (i + 1)) (nI_addE rfl (nI_k 1)) (xarr_r rfl rfl) rfl (by show _ < S.1; omega) (by show S.1 ≤ 65536; omega) rfl ?_
    refine xs_call (lv2 := [(0, _), (1, _)]) r_286_2747 rfl rfl (by decide) (xcan_0 rfl rfl M9.1 (by rfl)) rfl (m_238 M9 hG (by omega) h8 (on := on) rfl (by omega) hZ.c (fun hc => absurd z9 hc) (fun i2 hi2 hp2 f2 M2 y2 => ?_))
    have ei : i1 = i2 := nI_inj (hp1.symm.trans hp2) (by omega) (by omega)
    subst ei
    have q9 : Le i1 = Le i1 := rfl
    refine xK_v rfl ?_
    refine xs_f 2752 (lv2 := [(7, _), (6, _), (0, _), (1, _), (2, _), (3, _), (4, _), (5, _)]) r_286_2750 rfl ?_
    refine xs_f 2753 r_286_2752 rfl ?_
    refine xs_call (lv2 := [(0, _)]) r_286_2753 rfl rfl (by decide) (xcan_0 rfl rfl M2.1 (by rfl)) rfl ?_
    refine xs_f 1 r_149_0 rfl ?_
    refine xs_get 4 r_149_1 rfl rfl M2.1 (by rfl) ?_
    refine xs_ret r_149_4 rfl ?_
    refine xK_v rfl ?_
    refine xs_f 2758 r_286_2756 rfl ?_
    refine xs_f 2763 r_286_2758 rfl ?_
    refine xs_f 2765 r_286_2763 rfl ?_
    refine xs_f 2768 r_286_2765 rfl ?_
    refine xs_f 2769 r_286_2768 rfl ?_
    refine xs_f 2770 r_286_2769 rfl ?_
    refine xs_aldL 2771 r_286_2770 (fun _ _ => rfl) rfl rfl rfl (j := 0) (nI_k 0) (O9.fr (y2 _ (by omega))) (by omega) ?_
    rw [xw_s]
    refine xs_f 2773 r_286_2771 rfl ?_
    refine xs_f 2774 r_286_2773 rfl ?_
    refine xs_f 2775 r_286_2774 rfl ?_
    refine xs_if 2780 2778 r_286_2775 rfl (fun hl => ?_) (fun hl => ?_)
    · refine xs_f 2897 r_286_2780 rfl ?_
      obtain ⟨p9, c9, n9, t9⟩ := T9
      exact xP_lv [(0, .ref 12), (1, .ref 32), (2, .ref 809), (3, .ref 818), (4, .ref 819), (5, .int (nI i))] rfl ⟨rfl, rfl, rfl, rfl, rfl, rfl, trivial⟩ (k _ (hP.p (h2 := (f2, _)) (X9.fr (fun x hx => y2 x (by omega))) (S9.fr (fun x z1 z2 => y2 x (by omega))) ⟨p9, c9, n9, t9.fr (fun x z1 z2 => y2 x (by omega))⟩ ⟨_, _, _, _, _, _, M2⟩ ⟨_, O9.fr (y2 _ (by omega))⟩ (fun x hx => (y2 x (by omega)).trans (e9 x (by omega) (by omega))) B9 (by omega) (by omega) (by omega)))
    · exact absurd (by rw [q9]; exact lg_cmp_r _) hl

theorem lw_41 {S : XSc} {d : Nat} {h : XH} {Q : XO → XH → Prop} {i c : Nat} (hi : i + 7 ≤ S.1) (hL : S.1 ≤ 3584) (hc : c ≤ 511) (hI : LwI h c) (k : ∀ h2, LwI h2 (c + 1) → xP S (d + 14) 286 2897 [(0, .ref 12), (1, .ref 32), (2, .ref 809), (3, .ref 818), (4, .ref 819), (5, .int (nI i))] [] h2 Q) : xP S (d + 14) 286 2481 [(0, .ref 12), (1, .ref 32), (2, .ref 809), (3, .ref 818), (4, .ref 819), (5, .int (nI i))] [] h Q := by
  obtain ⟨H, Sv, pos, ch, sv, K, ea, fa, G, tn, Bu, on, Le, hP⟩ := hI
  obtain ⟨hX, hS, ⟨W, lo, hi2, hC⟩, ⟨p0, cc0, nu0, hT⟩, hZ, ⟨B, Mo, Pa, th, sp, wr, hM⟩, ⟨w0, hO⟩, hD, ⟨hK, h8, ht, hon⟩, hcn⟩ := id hP
  obtain ⟨o0, hHi, hSv, G8, hG8⟩ := id hX
  obtain ⟨mn, np, no, nn, N, sc, ho, TS, TH, tr, pl, q, s, R, hB, hr, hk, hN, hs⟩ := id hS
  obtain ⟨hG, ⟨r2, r3, r4⟩, r5, r6, r7, r8⟩ := id hr
  obtain ⟨m0, g0, b0, H0, S0, U0, L0, M0, A0⟩ := id hM
  have np5 := hG.1.2
  have no6 := hG.2.1.2
  have mm5 : ∀ i, i < no → (gQ G mn i).2.2.1 ≤ 5 := fun i hi => (hG.2.2 i (by omega)).2
  refine xs_f 2482 r_286_2481 rfl ?_
  refine xs_f 2483 r_286_2482 rfl ?_
  refine xs_f 2485 r_286_2483 rfl ?_
  refine xs_f 2486 r_286_2485 rfl ?_
  refine xs_f 2487 r_286_2486 rfl ?_
  refine xs_ald 2488 0 r_286_2487 (fun _ _ => rfl) rfl rfl rfl (j := (i + 1)) (nI_addE rfl (nI_k 1)) (xarr_r rfl rfl) rfl (by show _ < S.1; omega) (by show S.1 ≤ 65536; omega) rfl ?_
  refine xs_f 2489 r_286_2488 rfl ?_
  refine xs_f 2490 r_286_2489 rfl ?_
  refine xs_call (lv2 := [(0, _), (1, _), (2, _)]) r_286_2490 rfl rfl (by decide) (xcan_3 rfl rfl) rfl ?_
  refine xs_f 1 r_278_0 rfl ?_
  refine xs_f 2 r_278_1 rfl ?_
  refine xs_f 3 r_278_2 rfl ?_
  refine xs_f 4 r_278_3 rfl ?_
  refine xs_call (lv2 := [(0, _), (1, _)]) r_278_4 rfl rfl (by decide) (xcan_0 rfl rfl (by first | assumption | exact xup_s | exact o0 | exact M9.1 | (refine (xup_n (by omega)).trans ?_; first | assumption | exact xup_s | exact o0 | exact M9.1) | (refine (xup_n (by omega)).trans ((xup_n (by omega)).trans ?_); first | assumption | exact xup_s | exact o0 | exact M9.1) | (refine (xup_n (by omega)).trans ((xup_n (by omega)).trans ((xup_n (by omega)).trans ?_)); first | assumption | exact xup_s | exact o0 | exact M9.1)) (by rfl)) rfl (e_125 o0 hT (by omega) (x := (((S.2 (i + 1)).toUInt32 % 65536).toInt32)) c_nar (fun z9 => ?_) (fun z9 f8 t7 y8 => ?_))
  · have zM : (1 : Nat) = 1 := rfl
    have X8 := hX
    have S8 := hS
    have T8 : ∃ p cc nu, TxP h.1 804 tn p cc Bu nu := ⟨_, _, _, hT⟩
    have e8 : ∀ x, (((794 ≤ x ∧ x < 804) ∨ 807 ≤ x)) → h.1 x = h.1 x := fun _ _ => rfl
    have X9 := X8
    have S9 := S8
    have T9 := T8
    have O9 : LA (xbump (h.1, h.2)).1 818 1 w0 := hO.fr (e8 818 (by omega))
    have e9 : ∀ x, (((794 ≤ x ∧ x < 804) ∨ 807 ≤ x)) → x ≠ 818 → (xbump (h.1, h.2)).1 x = h.1 x := fun x h1 h2 => e8 x h1
    have M9 := hM.fr (fun x z1 z2 => e9 x (by omega) (by omega))
    have B9 : (xbump (h.1, h.2)).2 = h.2 ∨ (xbump (h.1, h.2)).2 = (xbump h).2 := Or.inr rfl
    refine xK_c (lv2 := [(0, _), (1, _), (2, _)]) rfl rfl rfl rfl ?_
    refine xs_f 14 r_278_13 rfl ?_
    refine xs_ret r_278_14 rfl ?_
    refine xK_v rfl ?_
    refine xs_f 2495 (lv2 := [(6, _), (0, _), (1, _), (2, _), (3, _), (4, _), (5, _)]) r_286_2493 rfl ?_
    refine xs_f 2496 r_286_2495 rfl ?_
    refine xs_f 2497 r_286_2496 rfl ?_
    refine xs_f 2499 r_286_2497 rfl ?_
    refine xs_f 2500 r_286_2499 rfl ?_
    refine xs_f 2501 r_286_2500 rfl ?_
    refine xs_ald 2502 0 r_286_2501 (fun _ _ => rfl) rfl rfl rfl (j := (i + 1)) (nI_addE rfl (nI_k 1)) (xarr_r rfl rfl) rfl (by show _ < S.1; omega) (by show S.1 ≤ 65536; omega) rfl ?_
    refine xs_f 2503 r_286_2502 rfl ?_
    refine xs_call (lv2 := [(0, _), (1, _)]) r_286_2503 rfl rfl (by decide) (xcan_0 rfl rfl M9.1 (by rfl)) rfl (m_221 M9 hG (by omega) h8 (tn := tn) rfl (by omega) (c := (((S.2 (i + 1)).toUInt32 % 65536).toInt32)) c_nar (fun hc f2 M2 y2 => ?_) (fun hc => absurd hc (by omega)))
    refine xK_v rfl ?_
    refine xs_f 2508 (lv2 := [(7, _), (6, _), (0, _), (1, _), (2, _), (3, _), (4, _), (5, _)]) r_286_2506 rfl ?_
    refine xs_f 2509 r_286_2508 rfl ?_
    refine xs_call (lv2 := [(0, _)]) r_286_2509 rfl rfl (by decide) (xcan_0 rfl rfl M2.1 (by rfl)) rfl ?_
    refine xs_f 1 r_149_0 rfl ?_
    refine xs_get 4 r_149_1 rfl rfl M2.1 (by rfl) ?_
    refine xs_ret r_149_4 rfl ?_
    refine xK_v rfl ?_
    refine xs_f 2514 r_286_2512 rfl ?_
    refine xs_f 2519 r_286_2514 rfl ?_
    refine xs_f 2521 r_286_2519 rfl ?_
    refine xs_f 2536 r_286_2521 rfl ?_
    refine xs_f 2897 r_286_2536 rfl ?_
    obtain ⟨p9, c9, n9, t9⟩ := T9
    exact xP_lv [(0, .ref 12), (1, .ref 32), (2, .ref 809), (3, .ref 818), (4, .ref 819), (5, .int (nI i))] rfl ⟨rfl, rfl, rfl, rfl, rfl, rfl, trivial⟩ (k _ (hP.p (h2 := (f2, _)) (X9.fr (fun x hx => y2 x (by omega))) (S9.fr (fun x z1 z2 => y2 x (by omega))) ⟨p9, c9, n9, t9.fr (fun x z1 z2 => y2 x (by omega))⟩ ⟨_, _, _, _, _, _, M2⟩ ⟨_, O9.fr (y2 _ (by omega))⟩ (fun x hx => (y2 x (by omega)).trans (e9 x (by omega) (by omega))) B9 (by omega) (by omega) (by omega)))
  · have q9 : nI (tn + 1) = nI (tn + 1) := rfl
    have X8 := hX.fr (g := f8) (fun x hx => y8 x (by omega))
    have S8 := hS.fr (g := f8) (fun x z1 z2 => y8 x (by omega))
    have T8 : ∃ p cc nu, TxP f8 804 (tn + 1) p cc (xw Bu tn (((S.2 (i + 1)).toUInt32 % 65536).toInt32)) nu := ⟨_, _, _, t7⟩
    have e8 : ∀ x, (((794 ≤ x ∧ x < 804) ∨ 807 ≤ x)) → f8 x = h.1 x := fun x h1 => y8 x (by omega)
    refine xK_v rfl ?_
    refine xs_f 8 r_278_7 rfl ?_
    refine xs_astL 9 r_278_8 (fun _ _ => rfl) rfl rfl rfl (j := 0) (nI_k 0) (hO.fr (e8 818 (by omega))) (by omega) (fun f1 O9 y1 => ?_)
    have X9 := X8.fr (g := f1) (fun x hx => y1 x (by omega))
    have S9 := S8.fr (g := f1) (fun x z1 z2 => y1 x (by omega))
    obtain ⟨p8, c8, n8, t8⟩ := T8
    have T9 : ∃ p cc nu, TxP f1 804 _ p cc _ nu := ⟨p8, c8, n8, t8.fr (fun x z1 z2 => y1 x (by omega))⟩
    have e9 : ∀ x, (((794 ≤ x ∧ x < 804) ∨ 807 ≤ x)) → x ≠ 818 → f1 x = h.1 x := fun x h1 h2 => (y1 x (by omega)).trans (e8 x h1)
    have M9 := hM.fr (fun x z1 z2 => e9 x (by omega) (by omega))
    have B9 : h.2 = h.2 ∨ h.2 = (xbump h).2 := Or.inl rfl
    refine xs_f 15 r_278_9 rfl ?_
    refine xs_f 16 r_278_15 rfl ?_
    refine xs_ret r_278_16 rfl ?_
    refine xK_v rfl ?_
    refine xs_f 2495 (lv2 := [(6, _), (0, _), (1, _), (2, _), (3, _), (4, _), (5, _)]) r_286_2493 rfl ?_
    refine xs_f 2496 r_286_2495 rfl ?_
    refine xs_f 2497 r_286_2496 rfl ?_
    refine xs_f 2499 r_286_2497 rfl ?_
    refine xs_f 2500 r_286_2499 rfl ?_
    refine xs_f 2501 r_286_2500 rfl ?_
    refine xs_ald 2502 0 r_286_2501 (fun _ _ => rfl) rfl rfl rfl (j := (i + 1)) (nI_addE rfl (nI_k 1)) (xarr_r rfl rfl) rfl (by show _ < S.1; omega) (by show S.1 ≤ 65536; omega) rfl ?_
    refine xs_f 2503 r_286_2502 rfl ?_
    refine xs_call (lv2 := [(0, _), (1, _)]) r_286_2503 rfl rfl (by decide) (xcan_0 rfl rfl M9.1 (by rfl)) rfl (m_221 M9 hG (by omega) h8 (tn := tn) rfl (by omega) (c := (((S.2 (i + 1)).toUInt32 % 65536).toInt32)) c_nar (fun hc => absurd hc (by omega)) (fun hc f2 M2 y2 => ?_))
    refine xK_v rfl ?_
    refine xs_f 2508 (lv2 := [(7, _), (6, _), (0, _), (1, _), (2, _), (3, _), (4, _), (5, _)]) r_286_2506 rfl ?_
    refine xs_f 2509 r_286_2508 rfl ?_
    refine xs_call (lv2 := [(0, _)]) r_286_2509 rfl rfl (by decide) (xcan_0 rfl rfl M2.1 (by rfl)) rfl ?_
    refine xs_f 1 r_149_0 rfl ?_
    refine xs_get 4 r_149_1 rfl rfl M2.1 (by rfl) ?_
    refine xs_ret r_149_4 rfl ?_
    refine xK_v rfl ?_
    refine xs_f 2514 r_286_2512 rfl ?_
    refine xs_f 2519 r_286_2514 rfl ?_
    refine xs_f 2521 r_286_2519 rfl ?_
    refine xs_f 2524 r_286_2521 rfl ?_
    refine xs_f 2525 r_286_2524 rfl ?_
    refine xs_f 2526 r_286_2525 rfl ?_
    refine xs_aldL 2527 r_286_2526 (fun _ _ => rfl) rfl rfl rfl (j := 0) (nI_k 0) (O9.fr (y2 _ (by omega))) (by omega) ?_
    rw [xw_s]
    refine xs_f 2529 r_286_2527 rfl ?_
    refine xs_f 2530 r_286_2529 rfl ?_
    refine xs_f 2531 r_286_2530 rfl ?_
    refine xs_if 2536 2534 r_286_2531 rfl (fun hl => ?_) (fun hl => ?_)
    · refine xs_f 2897 r_286_2536 rfl ?_
      obtain ⟨p9, c9, n9, t9⟩ := T9
      exact xP_lv [(0, .ref 12), (1, .ref 32), (2, .ref 809), (3, .ref 818), (4, .ref 819), (5, .int (nI i))] rfl ⟨rfl, rfl, rfl, rfl, rfl, rfl, trivial⟩ (k _ (hP.p (h2 := (f2, _)) (X9.fr (fun x hx => y2 x (by omega))) (S9.fr (fun x z1 z2 => y2 x (by omega))) ⟨p9, c9, n9, t9.fr (fun x z1 z2 => y2 x (by omega))⟩ ⟨_, _, _, _, _, _, M2⟩ ⟨_, O9.fr (y2 _ (by omega))⟩ (fun x hx => (y2 x (by omega)).trans (e9 x (by omega) (by omega))) B9 (by omega) (by omega) (by omega)))
    · exact absurd (by rw [q9]; exact lg_cmp_r _) hl

theorem lw_42 {S : XSc} {d : Nat} {h : XH} {Q : XO → XH → Prop} {i c : Nat} (hi : i + 7 ≤ S.1) (hL : S.1 ≤ 3584) (hc : c ≤ 511) (hI : LwI h c) (k : ∀ h2, LwI h2 (c + 1) → xP S (d + 14) 286 2897 [(0, .ref 12), (1, .ref 32), (2, .ref 809), (3, .ref 818), (4, .ref 819), (5, .int (nI i))] [] h2 Q) : xP S (d + 14) 286 2539 [(0, .ref 12), (1, .ref 32), (2, .ref 809), (3, .ref 818), (4, .ref 819), (5, .int (nI i))] [] h Q := by
  obtain ⟨H, Sv, pos, ch, sv, K, ea, fa, G, tn, Bu, on, Le, hP⟩ := hI
  obtain ⟨hX, hS, ⟨W, lo, hi2, hC⟩, ⟨p0, cc0, nu0, hT⟩, hZ, ⟨B, Mo, Pa, th, sp, wr, hM⟩, ⟨w0, hO⟩, hD, ⟨hK, h8, ht, hon⟩, hcn⟩ := id hP
  obtain ⟨o0, hHi, hSv, G8, hG8⟩ := id hX
  obtain ⟨mn, np, no, nn, N, sc, ho, TS, TH, tr, pl, q, s, R, hB, hr, hk, hN, hs⟩ := id hS
  obtain ⟨hG, ⟨r2, r3, r4⟩, r5, r6, r7, r8⟩ := id hr
  obtain ⟨m0, g0, b0, H0, S0, U0, L0, M0, A0⟩ := id hM
  have np5 := hG.1.2
  have no6 := hG.2.1.2
  have mm5 : ∀ i, i < no → (gQ G mn i).2.2.1 ≤ 5 := fun i hi => (hG.2.2 i (by omega)).2
  have hg0 := hS.gok
  obtain ⟨e1, e2, e3, e4, e5, e6, e7⟩ := run_eq (Bu := Bu) ht 61 0 0 Pa 60 cc0 nu0 (Nat.zero_le _) (by omega) (by omega) rfl
  have e1 : (ctC Bu tn 60 1 0 cc0 nu0).2.1 = (prM Bu tn 61 0 0 Pa).2.2.1 := e1
  have nb : ((prM Bu tn 61 0 0 Pa).2.2.2 = false ∧ ¬ (prM Bu tn 61 0 0 Pa).2.2.1 < tn) → ¬ bad tn (prM Bu tn 61 0 0 Pa) := fun z y => y.elim (fun y => absurd y (by rw [z.1]; decide)) (fun y => z.2 y)
  have hLL : ((prM Bu tn 61 0 0 Pa).2.2.2 = false ∧ ¬ (prM Bu tn 61 0 0 Pa).2.2.1 < tn) → (prM Bu tn 61 0 0 Pa).1 ≤ 59 ∧ ∀ i, i < (prM Bu tn 61 0 0 Pa).1 → ∃ j, j < 6 ∧ (prM Bu tn 61 0 0 Pa).2.1 (7 * i) = ltr j := fun z => ⟨by have := e5.2.1; omega, fun i hi => e6 (nb z) i (Nat.zero_le _) hi⟩
  refine xs_f 2540 r_286_2539 rfl ?_
  refine xs_f 2541 r_286_2540 rfl ?_
  refine xs_call (lv2 := [(0, _), (1, _)]) r_286_2541 rfl rfl (by decide) (xcan_3 rfl rfl) rfl ?_
  refine xs_f 1 r_279_0 rfl ?_
  refine xs_f 2 r_279_1 rfl ?_
  refine xs_f 3 r_279_2 rfl ?_
  refine xs_call (lv2 := [(0, _)]) r_279_3 rfl rfl (by decide) (xcan_0 rfl rfl (by first | assumption | exact xup_s | exact o0 | exact M9.1 | (refine (xup_n (by omega)).trans ?_; first | assumption | exact xup_s | exact o0 | exact M9.1) | (refine (xup_n (by omega)).trans ((xup_n (by omega)).trans ?_); first | assumption | exact xup_s | exact o0 | exact M9.1) | (refine (xup_n (by omega)).trans ((xup_n (by omega)).trans ((xup_n (by omega)).trans ?_)); first | assumption | exact xup_s | exact o0 | exact M9.1)) (by rfl)) rfl (e_126 hX hS hT (by omega) (fun zA f8 X8 S8 T8 y8 => ?_) (fun v9 i9 zA zB f8 X8 S8 T8 y8 => ?_) (fun v9 zA zB f8 pos8 X8 S8 T8 y8 => ?_))
  · rw [e1] at X8
    have e8 : ∀ x, (((794 ≤ x ∧ x < 804) ∨ 807 ≤ x)) → f8 x = h.1 x := fun x h1 => y8 x (by omega)
    have X9 := X8
    have S9 := S8
    have T9 := T8
    have O9 : LA (xbump (f8, h.2)).1 818 1 w0 := hO.fr (e8 818 (by omega))
    have e9 : ∀ x, (((794 ≤ x ∧ x < 804) ∨ 807 ≤ x)) → x ≠ 818 → (xbump (f8, h.2)).1 x = h.1 x := fun x h1 h2 => e8 x h1
    have M9 := hM.fr (fun x z1 z2 => e9 x (by omega) (by omega))
    have B9 : (xbump (f8, h.2)).2 = h.2 ∨ (xbump (f8, h.2)).2 = (xbump h).2 := Or.inr rfl
    refine xK_c (lv2 := [(0, _), (1, _)]) rfl rfl rfl rfl ?_
    refine xs_f 13 r_279_12 rfl ?_
    refine xs_ret r_279_13 rfl ?_
    refine xK_v rfl ?_
    refine xs_f 2546 (lv2 := [(6, _), (0, _), (1, _), (2, _), (3, _), (4, _), (5, _)]) r_286_2544 rfl ?_
    refine xs_f 2547 r_286_2546 rfl ?_
    refine xs_call (lv2 := [(0, _)]) r_286_2547 rfl rfl (by decide) (xcan_0 rfl rfl M9.1 (by rfl)) rfl (m_231 M9 (by omega) h8 ht hg0 (by omega) hLL (fun hb f2 Mo2 Pa2 sp2 wr2 M2 y2 => ?_) (fun hg9 => absurd (e3 zA) (nb hg9)) (fun hg9 => absurd (e3 zA) (nb hg9)))
    refine xK_v rfl ?_
    refine xs_f 2552 (lv2 := [(7, _), (6, _), (0, _), (1, _), (2, _), (3, _), (4, _), (5, _)]) r_286_2550 rfl ?_
    refine xs_f 2553 r_286_2552 rfl ?_
    refine xs_call (lv2 := [(0, _)]) r_286_2553 rfl rfl (by decide) (xcan_0 rfl rfl M2.1 (by rfl)) rfl ?_
    refine xs_f 1 r_149_0 rfl ?_
    refine xs_get 4 r_149_1 rfl rfl M2.1 (by rfl) ?_
    refine xs_ret r_149_4 rfl ?_
    refine xK_v rfl ?_
    refine xs_f 2558 r_286_2556 rfl ?_
    refine xs_f 2563 r_286_2558 rfl ?_
    refine xs_f 2565 r_286_2563 rfl ?_
    refine xs_f 2580 r_286_2565 rfl ?_
    refine xs_f 2897 r_286_2580 rfl ?_
    obtain ⟨p9, c9, n9, t9⟩ := T9
    exact xP_lv [(0, .ref 12), (1, .ref 32), (2, .ref 809), (3, .ref 818), (4, .ref 819), (5, .int (nI i))] rfl ⟨rfl, rfl, rfl, rfl, rfl, rfl, trivial⟩ (k _ (hP.p (h2 := (f2, _)) (X9.fr (fun x hx => y2 x (by omega))) (S9.fr (fun x z1 z2 => y2 x (by omega))) ⟨p9, c9, n9, t9.fr (fun x z1 z2 => y2 x (by omega))⟩ ⟨_, _, _, _, _, _, M2⟩ ⟨_, O9.fr (y2 _ (by omega))⟩ (fun x hx => (y2 x (by omega)).trans (e9 x (by omega) (by omega))) B9 (by omega) (by omega) (by omega)))
  · obtain ⟨ev, nb9⟩ := e2 v9 zA
    subst ev
    have lv := e5.2.2 nb9
    have l0 := e5.1
    obtain ⟨ex1, ex2⟩ := e7 nb9 G (ctC Bu tn 60 1 0 cc0 nu0).2.2.1 (ctC Bu tn 60 1 0 cc0 nu0).2.2.2 _ (Nat.zero_add _)
    have zR := ex1.symm.trans zB
    have e8 : ∀ x, (((794 ≤ x ∧ x < 804) ∨ 807 ≤ x)) → f8 x = h.1 x := fun x h1 => y8 x (by omega)
    have X9 := X8
    have S9 := S8
    have T9 := T8
    have O9 : LA (xbump (f8, h.2)).1 818 1 w0 := hO.fr (e8 818 (by omega))
    have e9 : ∀ x, (((794 ≤ x ∧ x < 804) ∨ 807 ≤ x)) → x ≠ 818 → (xbump (f8, h.2)).1 x = h.1 x := fun x h1 h2 => e8 x h1
    have M9 := hM.fr (fun x z1 z2 => e9 x (by omega) (by omega))
    have B9 : (xbump (f8, h.2)).2 = h.2 ∨ (xbump (f8, h.2)).2 = (xbump h).2 := Or.inr rfl
    refine xK_c (lv2 := [(0, _), (1, _)]) rfl rfl rfl rfl ?_
    refine xs_f 16 r_279_15 rfl ?_
    refine xs_ret r_279_16 rfl ?_
    refine xK_v rfl ?_
    refine xs_f 2546 (lv2 := [(6, _), (0, _), (1, _), (2, _), (3, _), (4, _), (5, _)]) r_286_2544 rfl ?_
    refine xs_f 2547 r_286_2546 rfl ?_
    refine xs_call (lv2 := [(0, _)]) r_286_2547 rfl rfl (by decide) (xcan_0 rfl rfl M9.1 (by rfl)) rfl (m_231 M9 (by omega) h8 ht hg0 (by omega) hLL (fun hb => absurd hb nb9) (fun hg9 i2 hi2 f2 Mo2 Pa2 sp2 wr2 M2 y2 => ?_) (fun hg9 hn => nomatch (hn.symm.trans zR)))
    have ei : i9 = i2 := Option.some.inj (zR.symm.trans hi2)
    subst ei
    refine xK_v rfl ?_
    refine xs_f 2552 (lv2 := [(7, _), (6, _), (0, _), (1, _), (2, _), (3, _), (4, _), (5, _)]) r_286_2550 rfl ?_
    refine xs_f 2553 r_286_2552 rfl ?_
    refine xs_call (lv2 := [(0, _)]) r_286_2553 rfl rfl (by decide) (xcan_0 rfl rfl M2.1 (by rfl)) rfl ?_
    refine xs_f 1 r_149_0 rfl ?_
    refine xs_get 4 r_149_1 rfl rfl M2.1 (by rfl) ?_
    refine xs_ret r_149_4 rfl ?_
    refine xK_v rfl ?_
    refine xs_f 2558 r_286_2556 rfl ?_
    refine xs_f 2563 r_286_2558 rfl ?_
    refine xs_f 2565 r_286_2563 rfl ?_
    refine xs_f 2580 r_286_2565 rfl ?_
    refine xs_f 2897 r_286_2580 rfl ?_
    obtain ⟨p9, c9, n9, t9⟩ := T9
    exact xP_lv [(0, .ref 12), (1, .ref 32), (2, .ref 809), (3, .ref 818), (4, .ref 819), (5, .int (nI i))] rfl ⟨rfl, rfl, rfl, rfl, rfl, rfl, trivial⟩ (k _ (hP.p (h2 := (f2, _)) (X9.fr (fun x hx => y2 x (by omega))) (S9.fr (fun x z1 z2 => y2 x (by omega))) ⟨p9, c9, n9, t9.fr (fun x z1 z2 => y2 x (by omega))⟩ ⟨_, _, _, _, _, _, M2⟩ ⟨_, O9.fr (y2 _ (by omega))⟩ (fun x hx => (y2 x (by omega)).trans (e9 x (by omega) (by omega))) B9 (by omega) (by omega) (by omega)))
  · obtain ⟨ev, nb9⟩ := e2 v9 zA
    subst ev
    have lv := e5.2.2 nb9
    have l0 := e5.1
    obtain ⟨ex1, ex2⟩ := e7 nb9 G (ctC Bu tn 60 1 0 cc0 nu0).2.2.1 (ctC Bu tn 60 1 0 cc0 nu0).2.2.2 _ (Nat.zero_add _)
    have zR := ex1.symm.trans zB
    rw [ex2] at S8
    have q9 : nI (prM Bu tn 61 0 0 Pa).1 = nI (prM Bu tn 61 0 0 Pa).1 := rfl
    have e8 : ∀ x, (((794 ≤ x ∧ x < 804) ∨ 807 ≤ x)) → f8 x = h.1 x := fun x h1 => y8 x (by omega)
    refine xK_v rfl ?_
    refine xs_f 7 r_279_6 rfl ?_
    refine xs_astL 8 r_279_7 (fun _ _ => rfl) rfl rfl rfl (j := 0) (nI_k 0) (hO.fr (e8 818 (by omega))) (by omega) (fun f1 O9 y1 => ?_)
    have X9 := X8.fr (g := f1) (fun x hx => y1 x (by omega))
    have S9 := S8.fr (g := f1) (fun x z1 z2 => y1 x (by omega))
    obtain ⟨p8, c8, n8, t8⟩ := T8
    have T9 : ∃ p cc nu, TxP f1 804 _ p cc _ nu := ⟨p8, c8, n8, t8.fr (fun x z1 z2 => y1 x (by omega))⟩
    have e9 : ∀ x, (((794 ≤ x ∧ x < 804) ∨ 807 ≤ x)) → x ≠ 818 → f1 x = h.1 x := fun x h1 h2 => (y1 x (by omega)).trans (e8 x h1)
    have M9 := hM.fr (fun x z1 z2 => e9 x (by omega) (by omega))
    have B9 : h.2 = h.2 ∨ h.2 = (xbump h).2 := Or.inl rfl
    refine xs_f 17 r_279_8 rfl ?_
    refine xs_f 18 r_279_17 rfl ?_
    refine xs_ret r_279_18 rfl ?_
    refine xK_v rfl ?_
    refine xs_f 2546 (lv2 := [(6, _), (0, _), (1, _), (2, _), (3, _), (4, _), (5, _)]) r_286_2544 rfl ?_
    refine xs_f 2547 r_286_2546 rfl ?_
    refine xs_call (lv2 := [(0, _)]) r_286_2547 rfl rfl (by decide) (xcan_0 rfl rfl M9.1 (by rfl)) rfl (m_231 M9 (by omega) h8 ht hg0 (by omega) hLL (fun hb => absurd hb nb9) (fun hg9 i2 hi2 => nomatch (zR.symm.trans hi2)) (fun hg9 hn f2 Mo2 Pa2 sp2 wr2 M2 y2 => ?_))
    refine xK_v rfl ?_
    refine xs_f 2552 (lv2 := [(7, _), (6, _), (0, _), (1, _), (2, _), (3, _), (4, _), (5, _)]) r_286_2550 rfl ?_
    refine xs_f 2553 r_286_2552 rfl ?_
    refine xs_call (lv2 := [(0, _)]) r_286_2553 rfl rfl (by decide) (xcan_0 rfl rfl M2.1 (by rfl)) rfl ?_
    refine xs_f 1 r_149_0 rfl ?_
    refine xs_get 4 r_149_1 rfl rfl M2.1 (by rfl) ?_
    refine xs_ret r_149_4 rfl ?_
    refine xK_v rfl ?_
    refine xs_f 2558 r_286_2556 rfl ?_
    refine xs_f 2563 r_286_2558 rfl ?_
    refine xs_f 2565 r_286_2563 rfl ?_
    refine xs_f 2568 r_286_2565 rfl ?_
    refine xs_f 2569 r_286_2568 rfl ?_
    refine xs_f 2570 r_286_2569 rfl ?_
    refine xs_aldL 2571 r_286_2570 (fun _ _ => rfl) rfl rfl rfl (j := 0) (nI_k 0) (O9.fr (y2 _ (by omega))) (by omega) ?_
    rw [xw_s]
    refine xs_f 2573 r_286_2571 rfl ?_
    refine xs_f 2574 r_286_2573 rfl ?_
    refine xs_f 2575 r_286_2574 rfl ?_
    refine xs_if 2580 2578 r_286_2575 rfl (fun hl => ?_) (fun hl => ?_)
    · refine xs_f 2897 r_286_2580 rfl ?_
      obtain ⟨p9, c9, n9, t9⟩ := T9
      exact xP_lv [(0, .ref 12), (1, .ref 32), (2, .ref 809), (3, .ref 818), (4, .ref 819), (5, .int (nI i))] rfl ⟨rfl, rfl, rfl, rfl, rfl, rfl, trivial⟩ (k _ (hP.p (h2 := (f2, _)) (X9.fr (fun x hx => y2 x (by omega))) (S9.fr (fun x z1 z2 => y2 x (by omega))) ⟨p9, c9, n9, t9.fr (fun x z1 z2 => y2 x (by omega))⟩ ⟨_, _, _, _, _, _, M2⟩ ⟨_, O9.fr (y2 _ (by omega))⟩ (fun x hx => (y2 x (by omega)).trans (e9 x (by omega) (by omega))) B9 (by omega) (by omega) (by omega)))
    · exact absurd (by rw [q9]; exact lg_cmp_r _) hl

