theorem xr_charE {x y : Int32} (e : x = y) (h : vp_nar .char y = y) : xrI 2 [.int x] = some (some (.int y)) := by subst e; exact if_pos h
theorem xcki_nI {i n : Nat} {h : XH} (hi : i < n) (hn : n ≤ 100000) : xX 4 [.int (nI i), .int (nI n)] h = some (none, h) := by
  show (if ¬ nI i < 0 ∧ nI i < nI n then some ((none : Option Value), h) else none) = _
  exact if_pos ⟨fun z => absurd ((nI_ltN (x := nI i) (y := 0) rfl (nI_k 0) (by omega) (by omega)).mp z) (Nat.not_lt_zero _), (nI_ltN rfl rfl (by omega) (by omega)).mpr hi⟩
/-! the forms of the commands, letter by letter -/
theorem s_312_0 {S : XSc} {d : Nat} {h : XH} {Q : XO → XH → Prop} (k : Q (.inl (some (.int (nI 6)))) h) : xP S (d + 1) 312 0 [(0, .ref 16)] [] h Q := by
  refine xs_f 1 r_312_0 rfl ?_
  refine xs_ext 4 r_312_1 rfl rfl rfl rfl ?_
  refine xs_len 5 r_312_4 rfl (xarr_r rfl rfl) ?_
  refine xs_f 6 r_312_5 rfl ?_
  refine xs_call (lv2 := [(0, _)]) r_312_6 rfl rfl (by decide) (by rfl) rfl ?_
  refine xs_gst 3 r_314_0 rfl ?_
  refine xs_f 6 r_314_3 rfl ?_
  refine xs_f 7 r_314_6 rfl ?_
  refine xs_ext 10 r_314_7 rfl rfl rfl rfl ?_
  refine xs_f 14 r_314_10 rfl ?_
  refine xs_ret r_314_14 rfl ?_
  refine xK_v rfl ?_
  refine xs_f 10 r_312_9 rfl ?_
  refine xs_ret r_312_10 rfl ?_
  exact k

theorem s_313_0 {S : XSc} {d : Nat} {h : XH} {Q : XO → XH → Prop} {i : Nat} (hi : i < 6) (k : Q (.inl (some (.int ((xfB 0).getD i 0)))) h) : xP S (d + 1) 313 0 [(0, .ref 16), (1, .int (nI i))] [] h Q := by
  refine xs_f 1 r_313_0 rfl ?_
  refine xs_call (lv2 := [(0, _)]) r_313_1 rfl rfl (by decide) (by rfl) rfl ?_
  refine xs_gst 3 r_315_0 rfl ?_
  refine xs_f 6 r_315_3 rfl ?_
  refine xs_f 7 r_315_6 rfl ?_
  refine xs_ext 10 r_315_7 rfl rfl rfl rfl ?_
  refine xs_f 13 r_315_10 rfl ?_
  refine xs_f 14 r_315_13 rfl ?_
  refine xs_f 18 r_315_14 rfl ?_
  refine xs_ret r_315_18 rfl ?_
  refine xK_v rfl ?_
  refine xs_f 7 r_313_4 rfl ?_
  refine xs_f 8 r_313_7 rfl ?_
  refine xs_ext 11 r_313_8 rfl rfl rfl rfl ?_
  refine xs_f 12 r_313_11 rfl ?_
  refine xs_call (lv2 := [(0, _), (1, _)]) r_313_12 rfl rfl (by decide) (xcan_1 rfl) rfl ?_
  refine xs_f 1 r_316_0 rfl ?_
  refine xs_f 2 r_316_1 rfl ?_
  refine xs_len 3 r_316_2 rfl (xarr_r rfl rfl) ?_
  refine xs_ext 6 r_316_3 rfl rfl (xcki_nI hi (by decide)) rfl ?_
  refine xs_f 7 r_316_6 rfl ?_
  refine xs_f 8 r_316_7 rfl ?_
  refine xs_ald 9 5 r_316_8 (fun _ _ => rfl) rfl rfl rfl (j := i) rfl (xarr_r rfl rfl) rfl (by exact hi) (by decide) rfl ?_
  refine xs_f 12 r_316_9 rfl ?_
  refine xs_f 13 r_316_12 rfl ?_
  refine xs_f 14 r_316_13 rfl ?_
  have e1 : ∀ i : Nat, i < 6 → ((((xfB 0).getD i 0) &&& 255).toUInt32 % 65536).toInt32 = (xfB 0).getD i 0 := by decide +kernel
  have e2 : ∀ i : Nat, i < 6 → vp_nar .char ((xfB 0).getD i 0) = (xfB 0).getD i 0 := by decide +kernel
  refine xs_ret r_316_14 (xr_charE (e1 i hi) (e2 i hi)) ?_
  refine xK_v rfl ?_
  refine xs_ret r_313_15 (xr_charE rfl (e2 i hi)) ?_
  exact k

theorem s_312_1 {S : XSc} {d : Nat} {h : XH} {Q : XO → XH → Prop} (k : Q (.inl (some (.int (nI 6)))) h) : xP S (d + 1) 312 0 [(0, .ref 17)] [] h Q := by
  refine xs_f 1 r_312_0 rfl ?_
  refine xs_ext 4 r_312_1 rfl rfl rfl rfl ?_
  refine xs_len 5 r_312_4 rfl (xarr_r rfl rfl) ?_
  refine xs_f 6 r_312_5 rfl ?_
  refine xs_call (lv2 := [(0, _)]) r_312_6 rfl rfl (by decide) (by rfl) rfl ?_
  refine xs_gst 3 r_314_0 rfl ?_
  refine xs_f 6 r_314_3 rfl ?_
  refine xs_f 7 r_314_6 rfl ?_
  refine xs_ext 10 r_314_7 rfl rfl rfl rfl ?_
  refine xs_f 14 r_314_10 rfl ?_
  refine xs_ret r_314_14 rfl ?_
  refine xK_v rfl ?_
  refine xs_f 10 r_312_9 rfl ?_
  refine xs_ret r_312_10 rfl ?_
  exact k

theorem s_313_1 {S : XSc} {d : Nat} {h : XH} {Q : XO → XH → Prop} {i : Nat} (hi : i < 6) (k : Q (.inl (some (.int ((xfB 1).getD i 0)))) h) : xP S (d + 1) 313 0 [(0, .ref 17), (1, .int (nI i))] [] h Q := by
  refine xs_f 1 r_313_0 rfl ?_
  refine xs_call (lv2 := [(0, _)]) r_313_1 rfl rfl (by decide) (by rfl) rfl ?_
  refine xs_gst 3 r_315_0 rfl ?_
  refine xs_f 6 r_315_3 rfl ?_
  refine xs_f 7 r_315_6 rfl ?_
  refine xs_ext 10 r_315_7 rfl rfl rfl rfl ?_
  refine xs_f 13 r_315_10 rfl ?_
  refine xs_f 14 r_315_13 rfl ?_
  refine xs_f 18 r_315_14 rfl ?_
  refine xs_ret r_315_18 rfl ?_
  refine xK_v rfl ?_
  refine xs_f 7 r_313_4 rfl ?_
  refine xs_f 8 r_313_7 rfl ?_
  refine xs_ext 11 r_313_8 rfl rfl rfl rfl ?_
  refine xs_f 12 r_313_11 rfl ?_
  refine xs_call (lv2 := [(0, _), (1, _)]) r_313_12 rfl rfl (by decide) (xcan_1 rfl) rfl ?_
  refine xs_f 1 r_316_0 rfl ?_
  refine xs_f 2 r_316_1 rfl ?_
  refine xs_len 3 r_316_2 rfl (xarr_r rfl rfl) ?_
  refine xs_ext 6 r_316_3 rfl rfl (xcki_nI hi (by decide)) rfl ?_
  refine xs_f 7 r_316_6 rfl ?_
  refine xs_f 8 r_316_7 rfl ?_
  refine xs_ald 9 5 r_316_8 (fun _ _ => rfl) rfl rfl rfl (j := i) rfl (xarr_r rfl rfl) rfl (by exact hi) (by decide) rfl ?_
  refine xs_f 12 r_316_9 rfl ?_
  refine xs_f 13 r_316_12 rfl ?_
  refine xs_f 14 r_316_13 rfl ?_
  have e1 : ∀ i : Nat, i < 6 → ((((xfB 1).getD i 0) &&& 255).toUInt32 % 65536).toInt32 = (xfB 1).getD i 0 := by decide +kernel
  have e2 : ∀ i : Nat, i < 6 → vp_nar .char ((xfB 1).getD i 0) = (xfB 1).getD i 0 := by decide +kernel
  refine xs_ret r_316_14 (xr_charE (e1 i hi) (e2 i hi)) ?_
  refine xK_v rfl ?_
  refine xs_ret r_313_15 (xr_charE rfl (e2 i hi)) ?_
  exact k

theorem s_312_2 {S : XSc} {d : Nat} {h : XH} {Q : XO → XH → Prop} (k : Q (.inl (some (.int (nI 15)))) h) : xP S (d + 1) 312 0 [(0, .ref 18)] [] h Q := by
  refine xs_f 1 r_312_0 rfl ?_
  refine xs_ext 4 r_312_1 rfl rfl rfl rfl ?_
  refine xs_len 5 r_312_4 rfl (xarr_r rfl rfl) ?_
  refine xs_f 6 r_312_5 rfl ?_
  refine xs_call (lv2 := [(0, _)]) r_312_6 rfl rfl (by decide) (by rfl) rfl ?_
  refine xs_gst 3 r_314_0 rfl ?_
  refine xs_f 6 r_314_3 rfl ?_
  refine xs_f 7 r_314_6 rfl ?_
  refine xs_ext 10 r_314_7 rfl rfl rfl rfl ?_
  refine xs_f 14 r_314_10 rfl ?_
  refine xs_ret r_314_14 rfl ?_
  refine xK_v rfl ?_
  refine xs_f 10 r_312_9 rfl ?_
  refine xs_ret r_312_10 rfl ?_
  exact k

theorem s_313_2 {S : XSc} {d : Nat} {h : XH} {Q : XO → XH → Prop} {i : Nat} (hi : i < 15) (k : Q (.inl (some (.int ((xfB 2).getD i 0)))) h) : xP S (d + 1) 313 0 [(0, .ref 18), (1, .int (nI i))] [] h Q := by
  refine xs_f 1 r_313_0 rfl ?_
  refine xs_call (lv2 := [(0, _)]) r_313_1 rfl rfl (by decide) (by rfl) rfl ?_
  refine xs_gst 3 r_315_0 rfl ?_
  refine xs_f 6 r_315_3 rfl ?_
  refine xs_f 7 r_315_6 rfl ?_
  refine xs_ext 10 r_315_7 rfl rfl rfl rfl ?_
  refine xs_f 13 r_315_10 rfl ?_
  refine xs_f 14 r_315_13 rfl ?_
  refine xs_f 18 r_315_14 rfl ?_
  refine xs_ret r_315_18 rfl ?_
  refine xK_v rfl ?_
  refine xs_f 7 r_313_4 rfl ?_
  refine xs_f 8 r_313_7 rfl ?_
  refine xs_ext 11 r_313_8 rfl rfl rfl rfl ?_
  refine xs_f 12 r_313_11 rfl ?_
  refine xs_call (lv2 := [(0, _), (1, _)]) r_313_12 rfl rfl (by decide) (xcan_1 rfl) rfl ?_
  refine xs_f 1 r_316_0 rfl ?_
  refine xs_f 2 r_316_1 rfl ?_
  refine xs_len 3 r_316_2 rfl (xarr_r rfl rfl) ?_
  refine xs_ext 6 r_316_3 rfl rfl (xcki_nI hi (by decide)) rfl ?_
  refine xs_f 7 r_316_6 rfl ?_
  refine xs_f 8 r_316_7 rfl ?_
  refine xs_ald 9 5 r_316_8 (fun _ _ => rfl) rfl rfl rfl (j := i) rfl (xarr_r rfl rfl) rfl (by exact hi) (by decide) rfl ?_
  refine xs_f 12 r_316_9 rfl ?_
  refine xs_f 13 r_316_12 rfl ?_
  refine xs_f 14 r_316_13 rfl ?_
  have e1 : ∀ i : Nat, i < 15 → ((((xfB 2).getD i 0) &&& 255).toUInt32 % 65536).toInt32 = (xfB 2).getD i 0 := by decide +kernel
  have e2 : ∀ i : Nat, i < 15 → vp_nar .char ((xfB 2).getD i 0) = (xfB 2).getD i 0 := by decide +kernel
  refine xs_ret r_316_14 (xr_charE (e1 i hi) (e2 i hi)) ?_
  refine xK_v rfl ?_
  refine xs_ret r_313_15 (xr_charE rfl (e2 i hi)) ?_
  exact k

theorem s_312_3 {S : XSc} {d : Nat} {h : XH} {Q : XO → XH → Prop} (k : Q (.inl (some (.int (nI 8)))) h) : xP S (d + 1) 312 0 [(0, .ref 19)] [] h Q := by
  refine xs_f 1 r_312_0 rfl ?_
  refine xs_ext 4 r_312_1 rfl rfl rfl rfl ?_
  refine xs_len 5 r_312_4 rfl (xarr_r rfl rfl) ?_
  refine xs_f 6 r_312_5 rfl ?_
  refine xs_call (lv2 := [(0, _)]) r_312_6 rfl rfl (by decide) (by rfl) rfl ?_
  refine xs_gst 3 r_314_0 rfl ?_
  refine xs_f 6 r_314_3 rfl ?_
  refine xs_f 7 r_314_6 rfl ?_
  refine xs_ext 10 r_314_7 rfl rfl rfl rfl ?_
  refine xs_f 14 r_314_10 rfl ?_
  refine xs_ret r_314_14 rfl ?_
  refine xK_v rfl ?_
  refine xs_f 10 r_312_9 rfl ?_
  refine xs_ret r_312_10 rfl ?_
  exact k

theorem s_313_3 {S : XSc} {d : Nat} {h : XH} {Q : XO → XH → Prop} {i : Nat} (hi : i < 8) (k : Q (.inl (some (.int ((xfB 3).getD i 0)))) h) : xP S (d + 1) 313 0 [(0, .ref 19), (1, .int (nI i))] [] h Q := by
  refine xs_f 1 r_313_0 rfl ?_
  refine xs_call (lv2 := [(0, _)]) r_313_1 rfl rfl (by decide) (by rfl) rfl ?_
  refine xs_gst 3 r_315_0 rfl ?_
  refine xs_f 6 r_315_3 rfl ?_
  refine xs_f 7 r_315_6 rfl ?_
  refine xs_ext 10 r_315_7 rfl rfl rfl rfl ?_
  refine xs_f 13 r_315_10 rfl ?_
  refine xs_f 14 r_315_13 rfl ?_
  refine xs_f 18 r_315_14 rfl ?_
  refine xs_ret r_315_18 rfl ?_
  refine xK_v rfl ?_
  refine xs_f 7 r_313_4 rfl ?_
  refine xs_f 8 r_313_7 rfl ?_
  refine xs_ext 11 r_313_8 rfl rfl rfl rfl ?_
  refine xs_f 12 r_313_11 rfl ?_
  refine xs_call (lv2 := [(0, _), (1, _)]) r_313_12 rfl rfl (by decide) (xcan_1 rfl) rfl ?_
  refine xs_f 1 r_316_0 rfl ?_
  refine xs_f 2 r_316_1 rfl ?_
  refine xs_len 3 r_316_2 rfl (xarr_r rfl rfl) ?_
  refine xs_ext 6 r_316_3 rfl rfl (xcki_nI hi (by decide)) rfl ?_
  refine xs_f 7 r_316_6 rfl ?_
  refine xs_f 8 r_316_7 rfl ?_
  refine xs_ald 9 5 r_316_8 (fun _ _ => rfl) rfl rfl rfl (j := i) rfl (xarr_r rfl rfl) rfl (by exact hi) (by decide) rfl ?_
  refine xs_f 12 r_316_9 rfl ?_
  refine xs_f 13 r_316_12 rfl ?_
  refine xs_f 14 r_316_13 rfl ?_
  have e1 : ∀ i : Nat, i < 8 → ((((xfB 3).getD i 0) &&& 255).toUInt32 % 65536).toInt32 = (xfB 3).getD i 0 := by decide +kernel
  have e2 : ∀ i : Nat, i < 8 → vp_nar .char ((xfB 3).getD i 0) = (xfB 3).getD i 0 := by decide +kernel
  refine xs_ret r_316_14 (xr_charE (e1 i hi) (e2 i hi)) ?_
  refine xK_v rfl ?_
  refine xs_ret r_313_15 (xr_charE rfl (e2 i hi)) ?_
  exact k

theorem s_312_4 {S : XSc} {d : Nat} {h : XH} {Q : XO → XH → Prop} (k : Q (.inl (some (.int (nI 5)))) h) : xP S (d + 1) 312 0 [(0, .ref 20)] [] h Q := by
  refine xs_f 1 r_312_0 rfl ?_
  refine xs_ext 4 r_312_1 rfl rfl rfl rfl ?_
  refine xs_len 5 r_312_4 rfl (xarr_r rfl rfl) ?_
  refine xs_f 6 r_312_5 rfl ?_
  refine xs_call (lv2 := [(0, _)]) r_312_6 rfl rfl (by decide) (by rfl) rfl ?_
  refine xs_gst 3 r_314_0 rfl ?_
  refine xs_f 6 r_314_3 rfl ?_
  refine xs_f 7 r_314_6 rfl ?_
  refine xs_ext 10 r_314_7 rfl rfl rfl rfl ?_
  refine xs_f 14 r_314_10 rfl ?_
  refine xs_ret r_314_14 rfl ?_
  refine xK_v rfl ?_
  refine xs_f 10 r_312_9 rfl ?_
  refine xs_ret r_312_10 rfl ?_
  exact k

theorem s_313_4 {S : XSc} {d : Nat} {h : XH} {Q : XO → XH → Prop} {i : Nat} (hi : i < 5) (k : Q (.inl (some (.int ((xfB 4).getD i 0)))) h) : xP S (d + 1) 313 0 [(0, .ref 20), (1, .int (nI i))] [] h Q := by
  refine xs_f 1 r_313_0 rfl ?_
  refine xs_call (lv2 := [(0, _)]) r_313_1 rfl rfl (by decide) (by rfl) rfl ?_
  refine xs_gst 3 r_315_0 rfl ?_
  refine xs_f 6 r_315_3 rfl ?_
  refine xs_f 7 r_315_6 rfl ?_
  refine xs_ext 10 r_315_7 rfl rfl rfl rfl ?_
  refine xs_f 13 r_315_10 rfl ?_
  refine xs_f 14 r_315_13 rfl ?_
  refine xs_f 18 r_315_14 rfl ?_
  refine xs_ret r_315_18 rfl ?_
  refine xK_v rfl ?_
  refine xs_f 7 r_313_4 rfl ?_
  refine xs_f 8 r_313_7 rfl ?_
  refine xs_ext 11 r_313_8 rfl rfl rfl rfl ?_
  refine xs_f 12 r_313_11 rfl ?_
  refine xs_call (lv2 := [(0, _), (1, _)]) r_313_12 rfl rfl (by decide) (xcan_1 rfl) rfl ?_
  refine xs_f 1 r_316_0 rfl ?_
  refine xs_f 2 r_316_1 rfl ?_
  refine xs_len 3 r_316_2 rfl (xarr_r rfl rfl) ?_
  refine xs_ext 6 r_316_3 rfl rfl (xcki_nI hi (by decide)) rfl ?_
  refine xs_f 7 r_316_6 rfl ?_
  refine xs_f 8 r_316_7 rfl ?_
  refine xs_ald 9 5 r_316_8 (fun _ _ => rfl) rfl rfl rfl (j := i) rfl (xarr_r rfl rfl) rfl (by exact hi) (by decide) rfl ?_
  refine xs_f 12 r_316_9 rfl ?_
  refine xs_f 13 r_316_12 rfl ?_
  refine xs_f 14 r_316_13 rfl ?_
  have e1 : ∀ i : Nat, i < 5 → ((((xfB 4).getD i 0) &&& 255).toUInt32 % 65536).toInt32 = (xfB 4).getD i 0 := by decide +kernel
  have e2 : ∀ i : Nat, i < 5 → vp_nar .char ((xfB 4).getD i 0) = (xfB 4).getD i 0 := by decide +kernel
  refine xs_ret r_316_14 (xr_charE (e1 i hi) (e2 i hi)) ?_
  refine xK_v rfl ?_
  refine xs_ret r_313_15 (xr_charE rfl (e2 i hi)) ?_
  exact k

theorem s_312_5 {S : XSc} {d : Nat} {h : XH} {Q : XO → XH → Prop} (k : Q (.inl (some (.int (nI 5)))) h) : xP S (d + 1) 312 0 [(0, .ref 21)] [] h Q := by
  refine xs_f 1 r_312_0 rfl ?_
  refine xs_ext 4 r_312_1 rfl rfl rfl rfl ?_
  refine xs_len 5 r_312_4 rfl (xarr_r rfl rfl) ?_
  refine xs_f 6 r_312_5 rfl ?_
  refine xs_call (lv2 := [(0, _)]) r_312_6 rfl rfl (by decide) (by rfl) rfl ?_
  refine xs_gst 3 r_314_0 rfl ?_
  refine xs_f 6 r_314_3 rfl ?_
  refine xs_f 7 r_314_6 rfl ?_
  refine xs_ext 10 r_314_7 rfl rfl rfl rfl ?_
  refine xs_f 14 r_314_10 rfl ?_
  refine xs_ret r_314_14 rfl ?_
  refine xK_v rfl ?_
  refine xs_f 10 r_312_9 rfl ?_
  refine xs_ret r_312_10 rfl ?_
  exact k

theorem s_313_5 {S : XSc} {d : Nat} {h : XH} {Q : XO → XH → Prop} {i : Nat} (hi : i < 5) (k : Q (.inl (some (.int ((xfB 5).getD i 0)))) h) : xP S (d + 1) 313 0 [(0, .ref 21), (1, .int (nI i))] [] h Q := by
  refine xs_f 1 r_313_0 rfl ?_
  refine xs_call (lv2 := [(0, _)]) r_313_1 rfl rfl (by decide) (by rfl) rfl ?_
  refine xs_gst 3 r_315_0 rfl ?_
  refine xs_f 6 r_315_3 rfl ?_
  refine xs_f 7 r_315_6 rfl ?_
  refine xs_ext 10 r_315_7 rfl rfl rfl rfl ?_
  refine xs_f 13 r_315_10 rfl ?_
  refine xs_f 14 r_315_13 rfl ?_
  refine xs_f 18 r_315_14 rfl ?_
  refine xs_ret r_315_18 rfl ?_
  refine xK_v rfl ?_
  refine xs_f 7 r_313_4 rfl ?_
  refine xs_f 8 r_313_7 rfl ?_
  refine xs_ext 11 r_313_8 rfl rfl rfl rfl ?_
  refine xs_f 12 r_313_11 rfl ?_
  refine xs_call (lv2 := [(0, _), (1, _)]) r_313_12 rfl rfl (by decide) (xcan_1 rfl) rfl ?_
  refine xs_f 1 r_316_0 rfl ?_
  refine xs_f 2 r_316_1 rfl ?_
  refine xs_len 3 r_316_2 rfl (xarr_r rfl rfl) ?_
  refine xs_ext 6 r_316_3 rfl rfl (xcki_nI hi (by decide)) rfl ?_
  refine xs_f 7 r_316_6 rfl ?_
  refine xs_f 8 r_316_7 rfl ?_
  refine xs_ald 9 5 r_316_8 (fun _ _ => rfl) rfl rfl rfl (j := i) rfl (xarr_r rfl rfl) rfl (by exact hi) (by decide) rfl ?_
  refine xs_f 12 r_316_9 rfl ?_
  refine xs_f 13 r_316_12 rfl ?_
  refine xs_f 14 r_316_13 rfl ?_
  have e1 : ∀ i : Nat, i < 5 → ((((xfB 5).getD i 0) &&& 255).toUInt32 % 65536).toInt32 = (xfB 5).getD i 0 := by decide +kernel
  have e2 : ∀ i : Nat, i < 5 → vp_nar .char ((xfB 5).getD i 0) = (xfB 5).getD i 0 := by decide +kernel
  refine xs_ret r_316_14 (xr_charE (e1 i hi) (e2 i hi)) ?_
  refine xK_v rfl ?_
  refine xs_ret r_313_15 (xr_charE rfl (e2 i hi)) ?_
  exact k

