/-! the law's loop, and the law -/
theorem LwI.up {h : XH} {c : Nat} (hI : LwI h c) : LwI h (c + 1) := by
  obtain ⟨H, Sv, pos, ch, sv, K, ea, fa, G, tn, Bu, on, Le, hX, hS, hC, hT, hZ, hM, hO, hD, hK, hcn⟩ := hI
  exact ⟨H, Sv, pos, ch, sv, K, ea, fa, G, tn, Bu, on, Le, hX, hS, hC, hT, hZ, hM, hO, hD, ⟨by omega, hK.2⟩, by omega, by omega⟩
theorem lt_sub7 {i L : Nat} (hi : i ≤ 1000000) (hL : L ≤ 1000000) : nI L - 7 < nI i ↔ L < i + 7 := by
  have e := nI_subI (a := L) (b := 7) (by omega) (by omega)
  have e2 : (nI L - 7 : Int32) = nI L - nI 7 := by rw [nI_k 7]
  rw [e2, Int32.lt_iff_toInt_lt, e, nI_toInt (by omega)]
  omega
def lawT : List Nat := [264, 308, 364, 482, 538, 582, 638, 651, 707, 770, 783, 796, 809, 865, 921, 977, 1033, 1101, 1176, 1244, 1312, 1380, 1448, 1516, 1584, 1640, 1696, 1752, 1765, 1821, 1877, 1933, 1989, 2066, 2122, 2166, 2222, 2278, 2334, 2390, 2468, 2481, 2539, 2583, 2627, 2671, 2727, 2783, 2796, 2840, 2853]
theorem lw_tab {v : Int32} {lv : XLv} {t : Nat} (e : xtab 0 50 2897 lawT v.toInt = some t) : xgoB lv ((xtab 0 50 2897 lawT v.toInt).map (fun t => (t, ([] : List Value)))) = some (t, (lv, [])) := by
  rw [e]
  rfl
theorem lw_out {x : Int} (h : x < 0 ∨ 50 < x) : xtab 0 50 2897 lawT x = some 2897 := if_pos h
theorem lw_in {x : Int} {t : Nat} (h : ¬ (x < 0 ∨ 50 < x)) (e : lawT[(x - 0).toNat]? = some t) : xtab 0 50 2897 lawT x = some t := by
  unfold xtab
  rw [if_neg h]
  exact e
theorem lw_any {S : XSc} {d : Nat} {h : XH} {Q : XO → XH → Prop} {i c : Nat} (hi : i + 7 ≤ S.1) (hL : S.1 ≤ 3584) (hc : c ≤ 511) (hI : LwI h c) (k : ∀ h2, LwI h2 (c + 1) → xP S (d + 14) 286 2897 [(0, .ref 12), (1, .ref 32), (2, .ref 809), (3, .ref 818), (4, .ref 819), (5, .int (nI i))] [] h2 Q) {n : Nat} (hn : n ≤ 50) : ∃ t, lawT[n]? = some t ∧ xP S (d + 14) 286 t [(0, .ref 12), (1, .ref 32), (2, .ref 809), (3, .ref 818), (4, .ref 819), (5, .int (nI i))] [] h Q := by
  by_cases e0 : n = 0
  · subst e0
    exact ⟨264, rfl, lw_0 hi hL hc hI k⟩
  by_cases e1 : n = 1
  · subst e1
    exact ⟨308, rfl, lw_1 hi hL hc hI k⟩
  by_cases e2 : n = 2
  · subst e2
    exact ⟨364, rfl, lw_2 hi hL hc hI k⟩
  by_cases e3 : n = 3
  · subst e3
    exact ⟨482, rfl, lw_3 hi hL hc hI k⟩
  by_cases e4 : n = 4
  · subst e4
    exact ⟨538, rfl, lw_4 hi hL hc hI k⟩
  by_cases e5 : n = 5
  · subst e5
    exact ⟨582, rfl, lw_5 hi hL hc hI k⟩
  by_cases e6 : n = 6
  · subst e6
    exact ⟨638, rfl, lw_6 hi hL hc hI k⟩
  by_cases e7 : n = 7
  · subst e7
    exact ⟨651, rfl, lw_7 hi hL hc hI k⟩
  by_cases e8 : n = 8
  · subst e8
    exact ⟨707, rfl, lw_8 hi hL hc hI k⟩
  by_cases e9 : n = 9
  · subst e9
    exact ⟨770, rfl, lw_9 hi hL hc hI k⟩
  by_cases e10 : n = 10
  · subst e10
    exact ⟨783, rfl, lw_10 hi hL hc hI k⟩
  by_cases e11 : n = 11
  · subst e11
    exact ⟨796, rfl, lw_11 hi hL hc hI k⟩
  by_cases e12 : n = 12
  · subst e12
    exact ⟨809, rfl, lw_12 hi hL hc hI k⟩
  by_cases e13 : n = 13
  · subst e13
    exact ⟨865, rfl, lw_13 hi hL hc hI k⟩
  by_cases e14 : n = 14
  · subst e14
    exact ⟨921, rfl, lw_14 hi hL hc hI k⟩
  by_cases e15 : n = 15
  · subst e15
    exact ⟨977, rfl, lw_15 hi hL hc hI k⟩
  by_cases e16 : n = 16
  · subst e16
    exact ⟨1033, rfl, lw_16 hi hL hc hI k⟩
  by_cases e17 : n = 17
  · subst e17
    exact ⟨1101, rfl, lw_17 hi hL hc hI k⟩
  by_cases e18 : n = 18
  · subst e18
    exact ⟨1176, rfl, lw_18 hi hL hc hI k⟩
  by_cases e19 : n = 19
  · subst e19
    exact ⟨1244, rfl, lw_19 hi hL hc hI k⟩
  by_cases e20 : n = 20
  · subst e20
    exact ⟨1312, rfl, lw_20 hi hL hc hI k⟩
  by_cases e21 : n = 21
  · subst e21
    exact ⟨1380, rfl, lw_21 hi hL hc hI k⟩
  by_cases e22 : n = 22
  · subst e22
    exact ⟨1448, rfl, lw_22 hi hL hc hI k⟩
  by_cases e23 : n = 23
  · subst e23
    exact ⟨1516, rfl, lw_23 hi hL hc hI k⟩
  by_cases e24 : n = 24
  · subst e24
    exact ⟨1584, rfl, lw_24 hi hL hc hI k⟩
  by_cases e25 : n = 25
  · subst e25
    exact ⟨1640, rfl, lw_25 hi hL hc hI k⟩
  by_cases e26 : n = 26
  · subst e26
    exact ⟨1696, rfl, lw_26 hi hL hc hI k⟩
  by_cases e27 : n = 27
  · subst e27
    exact ⟨1752, rfl, lw_27 hi hL hc hI k⟩
  by_cases e28 : n = 28
  · subst e28
    exact ⟨1765, rfl, lw_28 hi hL hc hI k⟩
  by_cases e29 : n = 29
  · subst e29
    exact ⟨1821, rfl, lw_29 hi hL hc hI k⟩
  by_cases e30 : n = 30
  · subst e30
    exact ⟨1877, rfl, lw_30 hi hL hc hI k⟩
  by_cases e31 : n = 31
  · subst e31
    exact ⟨1933, rfl, lw_31 hi hL hc hI k⟩
  by_cases e32 : n = 32
  · subst e32
    exact ⟨1989, rfl, lw_32 hi hL hc hI k⟩
  by_cases e33 : n = 33
  · subst e33
    exact ⟨2066, rfl, lw_33 hi hL hc hI k⟩
  by_cases e34 : n = 34
  · subst e34
    exact ⟨2122, rfl, lw_34 hi hL hc hI k⟩
  by_cases e35 : n = 35
  · subst e35
    exact ⟨2166, rfl, lw_35 hi hL hc hI k⟩
  by_cases e36 : n = 36
  · subst e36
    exact ⟨2222, rfl, lw_36 hi hL hc hI k⟩
  by_cases e37 : n = 37
  · subst e37
    exact ⟨2278, rfl, lw_37 hi hL hc hI k⟩
  by_cases e38 : n = 38
  · subst e38
    exact ⟨2334, rfl, lw_38 hi hL hc hI k⟩
  by_cases e39 : n = 39
  · subst e39
    exact ⟨2390, rfl, lw_39 hi hL hc hI k⟩
  by_cases e40 : n = 40
  · subst e40
    exact ⟨2468, rfl, lw_40 hi hL hc hI k⟩
  by_cases e41 : n = 41
  · subst e41
    exact ⟨2481, rfl, lw_41 hi hL hc hI k⟩
  by_cases e42 : n = 42
  · subst e42
    exact ⟨2539, rfl, lw_42 hi hL hc hI k⟩
  by_cases e43 : n = 43
  · subst e43
    exact ⟨2583, rfl, lw_43 hi hL hc hI k⟩
  by_cases e44 : n = 44
  · subst e44
    exact ⟨2627, rfl, lw_44 hi hL hc hI k⟩
  by_cases e45 : n = 45
  · subst e45
    exact ⟨2671, rfl, lw_45 hi hL hc hI k⟩
  by_cases e46 : n = 46
  · subst e46
    exact ⟨2727, rfl, lw_46 hi hL hc hI k⟩
  by_cases e47 : n = 47
  · subst e47
    exact ⟨2783, rfl, lw_47 hi hL hc hI k⟩
  by_cases e48 : n = 48
  · subst e48
    exact ⟨2796, rfl, lw_48 hi hL hc hI k⟩
  by_cases e49 : n = 49
  · subst e49
    exact ⟨2840, rfl, lw_49 hi hL hc hI k⟩
  by_cases e50 : n = 50
  · subst e50
    exact ⟨2853, rfl, lw_50 hi hL hc hI k⟩
  exact absurd hn (by omega)
theorem lw_run {S : XSc} {d : Nat} {h : XH} {Q : XO → XH → Prop} (hL : S.1 ≤ 3584) (hQ : ∀ (h2 : XH) (c : Nat), c ≤ 512 → LwI h2 c → Q (.inl (some (.int 1))) h2) : ∀ (m : Nat) (c : Nat) (g : XH), S.1 + 1 - 7 * c < m → (7 * c ≤ S.1) → (LwI g c) → xP S (d + 14) 286 28 [(0, .ref 12), (1, .ref 32), (2, .ref 809), (3, .ref 818), (4, .ref 819), (5, .int (nI (7 * c)))] [] g Q := by
  intro m
  induction m with
  | zero => intro c g hm; exact absurd hm (Nat.not_lt_zero _)
  | succ m ih =>
    intro c g hm hc hI
    refine xs_f 30 r_286_28 rfl ?_
    refine xs_f 31 r_286_30 rfl ?_
    refine xs_len 32 r_286_31 rfl (xarr_r rfl rfl) ?_
    refine xs_f 34 r_286_32 rfl ?_
    refine xs_f 35 r_286_34 rfl ?_
    refine xs_if 2903 38 r_286_35 rfl (fun hj => ?_) (fun hj => ?_)
    · refine xs_f 2904 r_286_2903 rfl ?_
      refine xs_ret r_286_2904 rfl ?_
      exact hQ g c (by omega) hI
    · refine xs_f 39 r_286_38 rfl ?_
      refine xs_f 41 r_286_39 rfl ?_
      refine xs_ald 42 0 r_286_41 (fun _ _ => rfl) rfl rfl rfl (j := (7 * c)) rfl (xarr_r rfl rfl) rfl (by show 7 * c < S.1; have := Nat.not_lt.mp (fun z => hj ((lt_sub7 (i := 7 * c) (L := S.1) (by omega) (by omega)).mpr z)); omega) (by show S.1 ≤ 65536; omega) rfl ?_
      refine xs_f 44 r_286_42 rfl ?_
      refine xs_f 45 r_286_44 rfl ?_
      have h7 : 7 * c + 7 ≤ S.1 := by have := Nat.not_lt.mp (fun z => hj ((lt_sub7 (i := 7 * c) (L := S.1) (by omega) (by omega)).mpr z)); omega
      have hi5 : (nI (7 * c) + 7 : Int32) = nI (7 * (c + 1)) := by rw [show 7 * (c + 1) = 7 * c + 7 by omega]; exact nI_addE rfl (nI_k 7)
      have hb : ∀ h2, LwI h2 (c + 1) → xP S (d + 14) 286 2897 [(0, .ref 12), (1, .ref 32), (2, .ref 809), (3, .ref 818), (4, .ref 819), (5, .int (nI (7 * c)))] [] h2 Q := fun h2 h3 => by
        refine xs_f 2900 r_286_2897 rfl ?_
        refine xs_f 28 r_286_2900 rfl ?_
        exact xP_lv [(0, .ref 12), (1, .ref 32), (2, .ref 809), (3, .ref 818), (4, .ref 819), (5, .int (nI (7 * (c + 1))))] rfl ⟨rfl, rfl, rfl, rfl, rfl, (by rw [← hi5]; rfl), trivial⟩ (ih (c + 1) h2 (by omega) (by omega) h3)
      by_cases hv : (S.2 (7 * c) &&& 63).toInt < 0 ∨ 50 < (S.2 (7 * c) &&& 63).toInt
      · refine xs_f 2897 r_286_45 (by show xgoB _ ((xtab 0 50 2897 lawT (S.2 (7 * c) &&& 63).toInt).map _) = _; exact lw_tab (lw_out hv)) ?_
        exact hb g hI.up
      · obtain ⟨t, h1, h2⟩ := lw_any h7 hL (by omega) hI hb (n := ((S.2 (7 * c) &&& 63).toInt - 0).toNat) (by omega)
        refine xs_f t r_286_45 (by show xgoB _ ((xtab 0 50 2897 lawT (S.2 (7 * c) &&& 63).toInt).map _) = _; exact lw_tab (lw_in hv h1)) ?_
        exact h2

theorem lw_law {S : XSc} {d : Nat} {h : XH} {Q : XO → XH → Prop} (hL : S.1 ≤ 3584) (hQ : ∀ (h2 : XH) (c : Nat), c ≤ 512 → LwI h2 c → Q (.inl (some (.int 1))) h2) (hk : Nw h 0 0 0) : xP S (d + 14) 286 0 [(0, .ref 12)] [] h Q := by
  refine xs_newO 3 r_286_0 rfl rfl hk (fun h1 o1 y1 n1 => ?_)
  refine xs_f 4 r_286_3 rfl ?_
  refine xs_call (lv2 := [(0, _)]) r_286_4 rfl rfl (by decide) (xcan_2 rfl) rfl (n_83 o1 n1 (fun h2 e2 b2 c2 d2 r2 s2 v2 t2 u2 w2 n2 => ?_))
  refine xK_0 rfl ?_
  refine xs_f 8 (lv2 := [(1, _), (0, _)]) r_286_7 rfl ?_
  refine xs_newO 11 r_286_8 rfl rfl n2 (fun h3 o3 y3 n3 => ?_)
  refine xs_f 12 r_286_11 rfl ?_
  refine xs_call (lv2 := [(0, _)]) r_286_12 rfl rfl (by decide) (xcan_2 rfl) rfl (n_148 (a := 809) (by omega) n3 o3 (fun h4 m4 y4 n4 => ?_))
  refine xK_0 rfl ?_
  refine xs_f 16 (lv2 := [(2, _), (1, _), (0, _)]) r_286_15 rfl ?_
  refine xs_f 17 r_286_16 rfl ?_
  refine xs_newA 19 1 1 r_286_17 rfl rfl rfl (by decide) rfl n4 (fun h5 o5 y5 n5 => ?_)
  refine xs_f 20 (lv2 := [(3, _), (2, _), (1, _), (0, _)]) r_286_19 rfl ?_
  refine xs_f 21 r_286_20 rfl ?_
  refine xs_newA 23 2 1 r_286_21 rfl rfl rfl (by decide) rfl n5 (fun h7 o7 y7 n7 => ?_)
  refine xs_f 25 (lv2 := [(4, _), (3, _), (2, _), (1, _), (0, _)]) r_286_23 rfl ?_
  refine xs_f 26 r_286_25 rfl ?_
  refine xs_f 28 (lv2 := [(5, _), (4, _), (3, _), (2, _), (1, _), (0, _)]) r_286_26 rfl ?_
  have F : ∀ x, x < 809 → h7.1 x = h2.1 x := fun x hx => (y7 x (by omega)).trans ((y5 x (by omega)).trans ((y4 x hx).trans (y3 x (by omega))))
  have n9 : h7.2 = (some 788, (788, 8213)) := n7
  have hX : CoX h7.1 (fun _ => 0) (fun _ => 0) 0 0 false 0 (-1) (-1) := ⟨(F 32 (by omega)).trans e2, ⟨(F 171 (by omega)).trans d2, r2.fr (F 172 (by omega)), ⟨by omega, by omega⟩, fun j hj => ⟨fun _ => 0, sim0 ((s2 j hj).fr (fun x z1 z2 => F x (by omega)))⟩, fun m hm => absurd hm (Nat.not_lt_zero _)⟩, (fun z => nomatch z), fun _ => 0, sim0 (c2.fr (fun x z1 z2 => F x (by omega)))⟩
  have hS : Sim h7.1 33 (fun _ => 0) 0 := sim0 (b2.fr (fun x z1 z2 => F x (by omega)))
  have hZ : SbX 820 h7 0 (fun _ => 0) := ⟨16, 808, fun _ => 0, 788, ⟨0, (F 807 (by omega)).trans u2⟩, w2.fr (F 808 (by omega)), fun j hj => absurd hj (Nat.not_lt_zero _), fun j hj => ⟨0, by omega, rfl⟩, ⟨by omega, by omega, by omega⟩, ⟨by omega, Or.inl rfl, by omega⟩, congrArg Prod.fst n9, by omega, by omega⟩
  have hO : LA h7.1 818 1 (fun _ => 0) := ⟨_, (y7 _ (by omega)).trans o5, fun _ _ => rfl⟩
  have hM := m4.fr (g := h7.1) (fun x z1 z2 => (y7 x (by omega)).trans (y5 x (by omega)))
  have hI : LwI h7 0 := ⟨fun _ => 0, fun _ => 0, 0, 0, false, 0, -1, -1, fun _ => 0, 0, fun _ => 0, 0, fun _ => 0, hX, hS, ⟨_, _, _, v2.fr (fun x z1 z2 => F x (by omega))⟩, ⟨_, _, _, t2.fr (fun x z1 z2 => F x (by omega))⟩, hZ, ⟨_, _, _, _, _, _, hM⟩, ⟨_, hO⟩, ⟨_, o7⟩, ⟨by omega, by omega, by omega, by omega⟩, by rw [n9]; decide, by rw [n9]; decide⟩
  exact xP_lv [(0, .ref 12), (1, .ref 32), (2, .ref 809), (3, .ref 818), (4, .ref 819), (5, .int (nI (7 * 0)))] rfl ⟨rfl, rfl, rfl, rfl, rfl, rfl, trivial⟩ (lw_run (h := h) hL hQ (S.1 + 2) 0 h7 (by omega) (by omega) hI)

