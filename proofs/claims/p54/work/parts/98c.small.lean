/-! the law's small methods -/
theorem ycki_nI {i n : Nat} {h : XH} (hi : i < n) (hn : n ≤ 100000) : yX 4 [.int (nI i), .int (nI n)] h = some (none, h) := xcki_nI (h := h) hi hn
/-- a constant text: its length and its letters -/
def StA (a n : Nat) (L : List Int32) : Prop := (∀ h, xstr 72 h a = true) ∧ (∀ (S : XSc) (d : Nat) (h : XH) (Q : XO → XH → Prop), Q (.inl (some (.int (nI n)))) h → yP S (d + 1) 312 0 [(0, .ref a)] [] h Q) ∧ (∀ i, i < n → ∀ (S : XSc) (d : Nat) (h : XH) (Q : XO → XH → Prop), Q (.inl (some (.int (L.getD i 0)))) h → yP S (d + 1) 313 0 [(0, .ref a), (1, .int (nI i))] [] h Q) ∧ n ≤ 60 ∧ ∀ i, i < n → vp_nar .char (L.getD i 0) = L.getD i 0
theorem xcan_str {nr : Nat} {h : XH} {w : Nat × (Nat × Nat)} {as : List Value} {b : Nat} (hn : Nat.ble (lg_sl (.ref b :: as)).length w.1 = true) (h2 : Nat.beq w.2.2 200 = true) (hs : xstr nr h b = true) : xcan nr 0 w h (.ref b :: as) = true := by
  unfold xcan
  rw [hn]
  show (true && xrecv nr w.2.2 h (.ref b :: as)) = true
  unfold xrecv
  rw [h2]
  simp only [cond_true, hs, Bool.and_self]
theorem s_312_6 {S : XSc} {d : Nat} {h : XH} {Q : XO → XH → Prop} (k : Q (.inl (some (.int (nI 25)))) h) : yP S (d + 1) 312 0 [(0, .ref 32)] [] h Q := by
  refine ys_f 1 r_312_0 rfl ?_
  refine ys_ext 4 r_312_1 rfl rfl rfl rfl ?_
  refine ys_len 5 r_312_4 rfl (yarr_r rfl rfl) ?_
  refine ys_f 6 r_312_5 rfl ?_
  refine ys_call (lv2 := [(0, _)]) r_312_6 rfl rfl (by decide) (by rfl) rfl ?_
  refine ys_gst 3 r_314_0 rfl ?_
  refine ys_f 6 r_314_3 rfl ?_
  refine ys_f 7 r_314_6 rfl ?_
  refine ys_ext 10 r_314_7 rfl rfl rfl rfl ?_
  refine ys_f 14 r_314_10 rfl ?_
  refine ys_ret r_314_14 rfl ?_
  refine yK_v rfl ?_
  refine ys_f 10 r_312_9 rfl ?_
  refine ys_ret r_312_10 rfl ?_
  exact k

theorem s_313_6 {S : XSc} {d : Nat} {h : XH} {Q : XO → XH → Prop} {i : Nat} (hi : i < 25) (k : Q (.inl (some (.int ((xfB 6).getD i 0)))) h) : yP S (d + 1) 313 0 [(0, .ref 32), (1, .int (nI i))] [] h Q := by
  refine ys_f 1 r_313_0 rfl ?_
  refine ys_call (lv2 := [(0, _)]) r_313_1 rfl rfl (by decide) (by rfl) rfl ?_
  refine ys_gst 3 r_315_0 rfl ?_
  refine ys_f 6 r_315_3 rfl ?_
  refine ys_f 7 r_315_6 rfl ?_
  refine ys_ext 10 r_315_7 rfl rfl rfl rfl ?_
  refine ys_f 13 r_315_10 rfl ?_
  refine ys_f 14 r_315_13 rfl ?_
  refine ys_f 18 r_315_14 rfl ?_
  refine ys_ret r_315_18 rfl ?_
  refine yK_v rfl ?_
  refine ys_f 7 r_313_4 rfl ?_
  refine ys_f 8 r_313_7 rfl ?_
  refine ys_ext 11 r_313_8 rfl rfl rfl rfl ?_
  refine ys_f 12 r_313_11 rfl ?_
  refine ys_call (lv2 := [(0, _), (1, _)]) r_313_12 rfl rfl (by decide) (xcan_1 rfl) rfl ?_
  refine ys_f 1 r_316_0 rfl ?_
  refine ys_f 2 r_316_1 rfl ?_
  refine ys_len 3 r_316_2 rfl (yarr_r rfl rfl) ?_
  refine ys_ext 6 r_316_3 rfl rfl (ycki_nI hi (by decide)) rfl ?_
  refine ys_f 7 r_316_6 rfl ?_
  refine ys_f 8 r_316_7 rfl ?_
  refine ys_ald 9 5 r_316_8 (fun _ _ => rfl) rfl rfl rfl (j := i) rfl (yarr_r rfl rfl) rfl (by exact hi) (by decide) rfl ?_
  refine ys_f 12 r_316_9 rfl ?_
  refine ys_f 13 r_316_12 rfl ?_
  refine ys_f 14 r_316_13 rfl ?_
  have e1 : ∀ i : Nat, i < 25 → ((((xfB 6).getD i 0) &&& 255).toUInt32 % 65536).toInt32 = (xfB 6).getD i 0 := by decide +kernel
  have e2 : ∀ i : Nat, i < 25 → vp_nar .char ((xfB 6).getD i 0) = (xfB 6).getD i 0 := by decide +kernel
  refine ys_ret r_316_14 (xr_charE (e1 i hi) (e2 i hi)) ?_
  refine yK_v rfl ?_
  refine ys_ret r_313_15 (xr_charE rfl (e2 i hi)) ?_
  exact k

theorem stA_6 : StA 32 25 (xfB 6) := ⟨fun h => rfl, fun S d h Q k => s_312_6 k, fun i hi S d h Q k => s_313_6 hi k, by decide, by decide +kernel⟩
theorem s_312_7 {S : XSc} {d : Nat} {h : XH} {Q : XO → XH → Prop} (k : Q (.inl (some (.int (nI 5)))) h) : yP S (d + 1) 312 0 [(0, .ref 33)] [] h Q := by
  refine ys_f 1 r_312_0 rfl ?_
  refine ys_ext 4 r_312_1 rfl rfl rfl rfl ?_
  refine ys_len 5 r_312_4 rfl (yarr_r rfl rfl) ?_
  refine ys_f 6 r_312_5 rfl ?_
  refine ys_call (lv2 := [(0, _)]) r_312_6 rfl rfl (by decide) (by rfl) rfl ?_
  refine ys_gst 3 r_314_0 rfl ?_
  refine ys_f 6 r_314_3 rfl ?_
  refine ys_f 7 r_314_6 rfl ?_
  refine ys_ext 10 r_314_7 rfl rfl rfl rfl ?_
  refine ys_f 14 r_314_10 rfl ?_
  refine ys_ret r_314_14 rfl ?_
  refine yK_v rfl ?_
  refine ys_f 10 r_312_9 rfl ?_
  refine ys_ret r_312_10 rfl ?_
  exact k

theorem s_313_7 {S : XSc} {d : Nat} {h : XH} {Q : XO → XH → Prop} {i : Nat} (hi : i < 5) (k : Q (.inl (some (.int ((xfB 7).getD i 0)))) h) : yP S (d + 1) 313 0 [(0, .ref 33), (1, .int (nI i))] [] h Q := by
  refine ys_f 1 r_313_0 rfl ?_
  refine ys_call (lv2 := [(0, _)]) r_313_1 rfl rfl (by decide) (by rfl) rfl ?_
  refine ys_gst 3 r_315_0 rfl ?_
  refine ys_f 6 r_315_3 rfl ?_
  refine ys_f 7 r_315_6 rfl ?_
  refine ys_ext 10 r_315_7 rfl rfl rfl rfl ?_
  refine ys_f 13 r_315_10 rfl ?_
  refine ys_f 14 r_315_13 rfl ?_
  refine ys_f 18 r_315_14 rfl ?_
  refine ys_ret r_315_18 rfl ?_
  refine yK_v rfl ?_
  refine ys_f 7 r_313_4 rfl ?_
  refine ys_f 8 r_313_7 rfl ?_
  refine ys_ext 11 r_313_8 rfl rfl rfl rfl ?_
  refine ys_f 12 r_313_11 rfl ?_
  refine ys_call (lv2 := [(0, _), (1, _)]) r_313_12 rfl rfl (by decide) (xcan_1 rfl) rfl ?_
  refine ys_f 1 r_316_0 rfl ?_
  refine ys_f 2 r_316_1 rfl ?_
  refine ys_len 3 r_316_2 rfl (yarr_r rfl rfl) ?_
  refine ys_ext 6 r_316_3 rfl rfl (ycki_nI hi (by decide)) rfl ?_
  refine ys_f 7 r_316_6 rfl ?_
  refine ys_f 8 r_316_7 rfl ?_
  refine ys_ald 9 5 r_316_8 (fun _ _ => rfl) rfl rfl rfl (j := i) rfl (yarr_r rfl rfl) rfl (by exact hi) (by decide) rfl ?_
  refine ys_f 12 r_316_9 rfl ?_
  refine ys_f 13 r_316_12 rfl ?_
  refine ys_f 14 r_316_13 rfl ?_
  have e1 : ∀ i : Nat, i < 5 → ((((xfB 7).getD i 0) &&& 255).toUInt32 % 65536).toInt32 = (xfB 7).getD i 0 := by decide +kernel
  have e2 : ∀ i : Nat, i < 5 → vp_nar .char ((xfB 7).getD i 0) = (xfB 7).getD i 0 := by decide +kernel
  refine ys_ret r_316_14 (xr_charE (e1 i hi) (e2 i hi)) ?_
  refine yK_v rfl ?_
  refine ys_ret r_313_15 (xr_charE rfl (e2 i hi)) ?_
  exact k

theorem stA_7 : StA 33 5 (xfB 7) := ⟨fun h => rfl, fun S d h Q k => s_312_7 k, fun i hi S d h Q k => s_313_7 hi k, by decide, by decide +kernel⟩
theorem s_312_8 {S : XSc} {d : Nat} {h : XH} {Q : XO → XH → Prop} (k : Q (.inl (some (.int (nI 15)))) h) : yP S (d + 1) 312 0 [(0, .ref 34)] [] h Q := by
  refine ys_f 1 r_312_0 rfl ?_
  refine ys_ext 4 r_312_1 rfl rfl rfl rfl ?_
  refine ys_len 5 r_312_4 rfl (yarr_r rfl rfl) ?_
  refine ys_f 6 r_312_5 rfl ?_
  refine ys_call (lv2 := [(0, _)]) r_312_6 rfl rfl (by decide) (by rfl) rfl ?_
  refine ys_gst 3 r_314_0 rfl ?_
  refine ys_f 6 r_314_3 rfl ?_
  refine ys_f 7 r_314_6 rfl ?_
  refine ys_ext 10 r_314_7 rfl rfl rfl rfl ?_
  refine ys_f 14 r_314_10 rfl ?_
  refine ys_ret r_314_14 rfl ?_
  refine yK_v rfl ?_
  refine ys_f 10 r_312_9 rfl ?_
  refine ys_ret r_312_10 rfl ?_
  exact k

theorem s_313_8 {S : XSc} {d : Nat} {h : XH} {Q : XO → XH → Prop} {i : Nat} (hi : i < 15) (k : Q (.inl (some (.int ((xfB 8).getD i 0)))) h) : yP S (d + 1) 313 0 [(0, .ref 34), (1, .int (nI i))] [] h Q := by
  refine ys_f 1 r_313_0 rfl ?_
  refine ys_call (lv2 := [(0, _)]) r_313_1 rfl rfl (by decide) (by rfl) rfl ?_
  refine ys_gst 3 r_315_0 rfl ?_
  refine ys_f 6 r_315_3 rfl ?_
  refine ys_f 7 r_315_6 rfl ?_
  refine ys_ext 10 r_315_7 rfl rfl rfl rfl ?_
  refine ys_f 13 r_315_10 rfl ?_
  refine ys_f 14 r_315_13 rfl ?_
  refine ys_f 18 r_315_14 rfl ?_
  refine ys_ret r_315_18 rfl ?_
  refine yK_v rfl ?_
  refine ys_f 7 r_313_4 rfl ?_
  refine ys_f 8 r_313_7 rfl ?_
  refine ys_ext 11 r_313_8 rfl rfl rfl rfl ?_
  refine ys_f 12 r_313_11 rfl ?_
  refine ys_call (lv2 := [(0, _), (1, _)]) r_313_12 rfl rfl (by decide) (xcan_1 rfl) rfl ?_
  refine ys_f 1 r_316_0 rfl ?_
  refine ys_f 2 r_316_1 rfl ?_
  refine ys_len 3 r_316_2 rfl (yarr_r rfl rfl) ?_
  refine ys_ext 6 r_316_3 rfl rfl (ycki_nI hi (by decide)) rfl ?_
  refine ys_f 7 r_316_6 rfl ?_
  refine ys_f 8 r_316_7 rfl ?_
  refine ys_ald 9 5 r_316_8 (fun _ _ => rfl) rfl rfl rfl (j := i) rfl (yarr_r rfl rfl) rfl (by exact hi) (by decide) rfl ?_
  refine ys_f 12 r_316_9 rfl ?_
  refine ys_f 13 r_316_12 rfl ?_
  refine ys_f 14 r_316_13 rfl ?_
  have e1 : ∀ i : Nat, i < 15 → ((((xfB 8).getD i 0) &&& 255).toUInt32 % 65536).toInt32 = (xfB 8).getD i 0 := by decide +kernel
  have e2 : ∀ i : Nat, i < 15 → vp_nar .char ((xfB 8).getD i 0) = (xfB 8).getD i 0 := by decide +kernel
  refine ys_ret r_316_14 (xr_charE (e1 i hi) (e2 i hi)) ?_
  refine yK_v rfl ?_
  refine ys_ret r_313_15 (xr_charE rfl (e2 i hi)) ?_
  exact k

theorem stA_8 : StA 34 15 (xfB 8) := ⟨fun h => rfl, fun S d h Q k => s_312_8 k, fun i hi S d h Q k => s_313_8 hi k, by decide, by decide +kernel⟩
theorem s_312_9 {S : XSc} {d : Nat} {h : XH} {Q : XO → XH → Prop} (k : Q (.inl (some (.int (nI 1)))) h) : yP S (d + 1) 312 0 [(0, .ref 35)] [] h Q := by
  refine ys_f 1 r_312_0 rfl ?_
  refine ys_ext 4 r_312_1 rfl rfl rfl rfl ?_
  refine ys_len 5 r_312_4 rfl (yarr_r rfl rfl) ?_
  refine ys_f 6 r_312_5 rfl ?_
  refine ys_call (lv2 := [(0, _)]) r_312_6 rfl rfl (by decide) (by rfl) rfl ?_
  refine ys_gst 3 r_314_0 rfl ?_
  refine ys_f 6 r_314_3 rfl ?_
  refine ys_f 7 r_314_6 rfl ?_
  refine ys_ext 10 r_314_7 rfl rfl rfl rfl ?_
  refine ys_f 14 r_314_10 rfl ?_
  refine ys_ret r_314_14 rfl ?_
  refine yK_v rfl ?_
  refine ys_f 10 r_312_9 rfl ?_
  refine ys_ret r_312_10 rfl ?_
  exact k

theorem s_313_9 {S : XSc} {d : Nat} {h : XH} {Q : XO → XH → Prop} {i : Nat} (hi : i < 1) (k : Q (.inl (some (.int ((xfB 9).getD i 0)))) h) : yP S (d + 1) 313 0 [(0, .ref 35), (1, .int (nI i))] [] h Q := by
  refine ys_f 1 r_313_0 rfl ?_
  refine ys_call (lv2 := [(0, _)]) r_313_1 rfl rfl (by decide) (by rfl) rfl ?_
  refine ys_gst 3 r_315_0 rfl ?_
  refine ys_f 6 r_315_3 rfl ?_
  refine ys_f 7 r_315_6 rfl ?_
  refine ys_ext 10 r_315_7 rfl rfl rfl rfl ?_
  refine ys_f 13 r_315_10 rfl ?_
  refine ys_f 14 r_315_13 rfl ?_
  refine ys_f 18 r_315_14 rfl ?_
  refine ys_ret r_315_18 rfl ?_
  refine yK_v rfl ?_
  refine ys_f 7 r_313_4 rfl ?_
  refine ys_f 8 r_313_7 rfl ?_
  refine ys_ext 11 r_313_8 rfl rfl rfl rfl ?_
  refine ys_f 12 r_313_11 rfl ?_
  refine ys_call (lv2 := [(0, _), (1, _)]) r_313_12 rfl rfl (by decide) (xcan_1 rfl) rfl ?_
  refine ys_f 1 r_316_0 rfl ?_
  refine ys_f 2 r_316_1 rfl ?_
  refine ys_len 3 r_316_2 rfl (yarr_r rfl rfl) ?_
  refine ys_ext 6 r_316_3 rfl rfl (ycki_nI hi (by decide)) rfl ?_
  refine ys_f 7 r_316_6 rfl ?_
  refine ys_f 8 r_316_7 rfl ?_
  refine ys_ald 9 5 r_316_8 (fun _ _ => rfl) rfl rfl rfl (j := i) rfl (yarr_r rfl rfl) rfl (by exact hi) (by decide) rfl ?_
  refine ys_f 12 r_316_9 rfl ?_
  refine ys_f 13 r_316_12 rfl ?_
  refine ys_f 14 r_316_13 rfl ?_
  have e1 : ∀ i : Nat, i < 1 → ((((xfB 9).getD i 0) &&& 255).toUInt32 % 65536).toInt32 = (xfB 9).getD i 0 := by decide +kernel
  have e2 : ∀ i : Nat, i < 1 → vp_nar .char ((xfB 9).getD i 0) = (xfB 9).getD i 0 := by decide +kernel
  refine ys_ret r_316_14 (xr_charE (e1 i hi) (e2 i hi)) ?_
  refine yK_v rfl ?_
  refine ys_ret r_313_15 (xr_charE rfl (e2 i hi)) ?_
  exact k

theorem stA_9 : StA 35 1 (xfB 9) := ⟨fun h => rfl, fun S d h Q k => s_312_9 k, fun i hi S d h Q k => s_313_9 hi k, by decide, by decide +kernel⟩
theorem s_312_10 {S : XSc} {d : Nat} {h : XH} {Q : XO → XH → Prop} (k : Q (.inl (some (.int (nI 2)))) h) : yP S (d + 1) 312 0 [(0, .ref 36)] [] h Q := by
  refine ys_f 1 r_312_0 rfl ?_
  refine ys_ext 4 r_312_1 rfl rfl rfl rfl ?_
  refine ys_len 5 r_312_4 rfl (yarr_r rfl rfl) ?_
  refine ys_f 6 r_312_5 rfl ?_
  refine ys_call (lv2 := [(0, _)]) r_312_6 rfl rfl (by decide) (by rfl) rfl ?_
  refine ys_gst 3 r_314_0 rfl ?_
  refine ys_f 6 r_314_3 rfl ?_
  refine ys_f 7 r_314_6 rfl ?_
  refine ys_ext 10 r_314_7 rfl rfl rfl rfl ?_
  refine ys_f 14 r_314_10 rfl ?_
  refine ys_ret r_314_14 rfl ?_
  refine yK_v rfl ?_
  refine ys_f 10 r_312_9 rfl ?_
  refine ys_ret r_312_10 rfl ?_
  exact k

theorem s_313_10 {S : XSc} {d : Nat} {h : XH} {Q : XO → XH → Prop} {i : Nat} (hi : i < 2) (k : Q (.inl (some (.int ((xfB 10).getD i 0)))) h) : yP S (d + 1) 313 0 [(0, .ref 36), (1, .int (nI i))] [] h Q := by
  refine ys_f 1 r_313_0 rfl ?_
  refine ys_call (lv2 := [(0, _)]) r_313_1 rfl rfl (by decide) (by rfl) rfl ?_
  refine ys_gst 3 r_315_0 rfl ?_
  refine ys_f 6 r_315_3 rfl ?_
  refine ys_f 7 r_315_6 rfl ?_
  refine ys_ext 10 r_315_7 rfl rfl rfl rfl ?_
  refine ys_f 13 r_315_10 rfl ?_
  refine ys_f 14 r_315_13 rfl ?_
  refine ys_f 18 r_315_14 rfl ?_
  refine ys_ret r_315_18 rfl ?_
  refine yK_v rfl ?_
  refine ys_f 7 r_313_4 rfl ?_
  refine ys_f 8 r_313_7 rfl ?_
  refine ys_ext 11 r_313_8 rfl rfl rfl rfl ?_
  refine ys_f 12 r_313_11 rfl ?_
  refine ys_call (lv2 := [(0, _), (1, _)]) r_313_12 rfl rfl (by decide) (xcan_1 rfl) rfl ?_
  refine ys_f 1 r_316_0 rfl ?_
  refine ys_f 2 r_316_1 rfl ?_
  refine ys_len 3 r_316_2 rfl (yarr_r rfl rfl) ?_
  refine ys_ext 6 r_316_3 rfl rfl (ycki_nI hi (by decide)) rfl ?_
  refine ys_f 7 r_316_6 rfl ?_
  refine ys_f 8 r_316_7 rfl ?_
  refine ys_ald 9 5 r_316_8 (fun _ _ => rfl) rfl rfl rfl (j := i) rfl (yarr_r rfl rfl) rfl (by exact hi) (by decide) rfl ?_
  refine ys_f 12 r_316_9 rfl ?_
  refine ys_f 13 r_316_12 rfl ?_
  refine ys_f 14 r_316_13 rfl ?_
  have e1 : ∀ i : Nat, i < 2 → ((((xfB 10).getD i 0) &&& 255).toUInt32 % 65536).toInt32 = (xfB 10).getD i 0 := by decide +kernel
  have e2 : ∀ i : Nat, i < 2 → vp_nar .char ((xfB 10).getD i 0) = (xfB 10).getD i 0 := by decide +kernel
  refine ys_ret r_316_14 (xr_charE (e1 i hi) (e2 i hi)) ?_
  refine yK_v rfl ?_
  refine ys_ret r_313_15 (xr_charE rfl (e2 i hi)) ?_
  exact k

theorem stA_10 : StA 36 2 (xfB 10) := ⟨fun h => rfl, fun S d h Q k => s_312_10 k, fun i hi S d h Q k => s_313_10 hi k, by decide, by decide +kernel⟩
theorem s_312_11 {S : XSc} {d : Nat} {h : XH} {Q : XO → XH → Prop} (k : Q (.inl (some (.int (nI 9)))) h) : yP S (d + 1) 312 0 [(0, .ref 37)] [] h Q := by
  refine ys_f 1 r_312_0 rfl ?_
  refine ys_ext 4 r_312_1 rfl rfl rfl rfl ?_
  refine ys_len 5 r_312_4 rfl (yarr_r rfl rfl) ?_
  refine ys_f 6 r_312_5 rfl ?_
  refine ys_call (lv2 := [(0, _)]) r_312_6 rfl rfl (by decide) (by rfl) rfl ?_
  refine ys_gst 3 r_314_0 rfl ?_
  refine ys_f 6 r_314_3 rfl ?_
  refine ys_f 7 r_314_6 rfl ?_
  refine ys_ext 10 r_314_7 rfl rfl rfl rfl ?_
  refine ys_f 14 r_314_10 rfl ?_
  refine ys_ret r_314_14 rfl ?_
  refine yK_v rfl ?_
  refine ys_f 10 r_312_9 rfl ?_
  refine ys_ret r_312_10 rfl ?_
  exact k

theorem s_313_11 {S : XSc} {d : Nat} {h : XH} {Q : XO → XH → Prop} {i : Nat} (hi : i < 9) (k : Q (.inl (some (.int ((xfB 11).getD i 0)))) h) : yP S (d + 1) 313 0 [(0, .ref 37), (1, .int (nI i))] [] h Q := by
  refine ys_f 1 r_313_0 rfl ?_
  refine ys_call (lv2 := [(0, _)]) r_313_1 rfl rfl (by decide) (by rfl) rfl ?_
  refine ys_gst 3 r_315_0 rfl ?_
  refine ys_f 6 r_315_3 rfl ?_
  refine ys_f 7 r_315_6 rfl ?_
  refine ys_ext 10 r_315_7 rfl rfl rfl rfl ?_
  refine ys_f 13 r_315_10 rfl ?_
  refine ys_f 14 r_315_13 rfl ?_
  refine ys_f 18 r_315_14 rfl ?_
  refine ys_ret r_315_18 rfl ?_
  refine yK_v rfl ?_
  refine ys_f 7 r_313_4 rfl ?_
  refine ys_f 8 r_313_7 rfl ?_
  refine ys_ext 11 r_313_8 rfl rfl rfl rfl ?_
  refine ys_f 12 r_313_11 rfl ?_
  refine ys_call (lv2 := [(0, _), (1, _)]) r_313_12 rfl rfl (by decide) (xcan_1 rfl) rfl ?_
  refine ys_f 1 r_316_0 rfl ?_
  refine ys_f 2 r_316_1 rfl ?_
  refine ys_len 3 r_316_2 rfl (yarr_r rfl rfl) ?_
  refine ys_ext 6 r_316_3 rfl rfl (ycki_nI hi (by decide)) rfl ?_
  refine ys_f 7 r_316_6 rfl ?_
  refine ys_f 8 r_316_7 rfl ?_
  refine ys_ald 9 5 r_316_8 (fun _ _ => rfl) rfl rfl rfl (j := i) rfl (yarr_r rfl rfl) rfl (by exact hi) (by decide) rfl ?_
  refine ys_f 12 r_316_9 rfl ?_
  refine ys_f 13 r_316_12 rfl ?_
  refine ys_f 14 r_316_13 rfl ?_
  have e1 : ∀ i : Nat, i < 9 → ((((xfB 11).getD i 0) &&& 255).toUInt32 % 65536).toInt32 = (xfB 11).getD i 0 := by decide +kernel
  have e2 : ∀ i : Nat, i < 9 → vp_nar .char ((xfB 11).getD i 0) = (xfB 11).getD i 0 := by decide +kernel
  refine ys_ret r_316_14 (xr_charE (e1 i hi) (e2 i hi)) ?_
  refine yK_v rfl ?_
  refine ys_ret r_313_15 (xr_charE rfl (e2 i hi)) ?_
  exact k

theorem stA_11 : StA 37 9 (xfB 11) := ⟨fun h => rfl, fun S d h Q k => s_312_11 k, fun i hi S d h Q k => s_313_11 hi k, by decide, by decide +kernel⟩
theorem s_312_12 {S : XSc} {d : Nat} {h : XH} {Q : XO → XH → Prop} (k : Q (.inl (some (.int (nI 9)))) h) : yP S (d + 1) 312 0 [(0, .ref 38)] [] h Q := by
  refine ys_f 1 r_312_0 rfl ?_
  refine ys_ext 4 r_312_1 rfl rfl rfl rfl ?_
  refine ys_len 5 r_312_4 rfl (yarr_r rfl rfl) ?_
  refine ys_f 6 r_312_5 rfl ?_
  refine ys_call (lv2 := [(0, _)]) r_312_6 rfl rfl (by decide) (by rfl) rfl ?_
  refine ys_gst 3 r_314_0 rfl ?_
  refine ys_f 6 r_314_3 rfl ?_
  refine ys_f 7 r_314_6 rfl ?_
  refine ys_ext 10 r_314_7 rfl rfl rfl rfl ?_
  refine ys_f 14 r_314_10 rfl ?_
  refine ys_ret r_314_14 rfl ?_
  refine yK_v rfl ?_
  refine ys_f 10 r_312_9 rfl ?_
  refine ys_ret r_312_10 rfl ?_
  exact k

theorem s_313_12 {S : XSc} {d : Nat} {h : XH} {Q : XO → XH → Prop} {i : Nat} (hi : i < 9) (k : Q (.inl (some (.int ((xfB 12).getD i 0)))) h) : yP S (d + 1) 313 0 [(0, .ref 38), (1, .int (nI i))] [] h Q := by
  refine ys_f 1 r_313_0 rfl ?_
  refine ys_call (lv2 := [(0, _)]) r_313_1 rfl rfl (by decide) (by rfl) rfl ?_
  refine ys_gst 3 r_315_0 rfl ?_
  refine ys_f 6 r_315_3 rfl ?_
  refine ys_f 7 r_315_6 rfl ?_
  refine ys_ext 10 r_315_7 rfl rfl rfl rfl ?_
  refine ys_f 13 r_315_10 rfl ?_
  refine ys_f 14 r_315_13 rfl ?_
  refine ys_f 18 r_315_14 rfl ?_
  refine ys_ret r_315_18 rfl ?_
  refine yK_v rfl ?_
  refine ys_f 7 r_313_4 rfl ?_
  refine ys_f 8 r_313_7 rfl ?_
  refine ys_ext 11 r_313_8 rfl rfl rfl rfl ?_
  refine ys_f 12 r_313_11 rfl ?_
  refine ys_call (lv2 := [(0, _), (1, _)]) r_313_12 rfl rfl (by decide) (xcan_1 rfl) rfl ?_
  refine ys_f 1 r_316_0 rfl ?_
  refine ys_f 2 r_316_1 rfl ?_
  refine ys_len 3 r_316_2 rfl (yarr_r rfl rfl) ?_
  refine ys_ext 6 r_316_3 rfl rfl (ycki_nI hi (by decide)) rfl ?_
  refine ys_f 7 r_316_6 rfl ?_
  refine ys_f 8 r_316_7 rfl ?_
  refine ys_ald 9 5 r_316_8 (fun _ _ => rfl) rfl rfl rfl (j := i) rfl (yarr_r rfl rfl) rfl (by exact hi) (by decide) rfl ?_
  refine ys_f 12 r_316_9 rfl ?_
  refine ys_f 13 r_316_12 rfl ?_
  refine ys_f 14 r_316_13 rfl ?_
  have e1 : ∀ i : Nat, i < 9 → ((((xfB 12).getD i 0) &&& 255).toUInt32 % 65536).toInt32 = (xfB 12).getD i 0 := by decide +kernel
  have e2 : ∀ i : Nat, i < 9 → vp_nar .char ((xfB 12).getD i 0) = (xfB 12).getD i 0 := by decide +kernel
  refine ys_ret r_316_14 (xr_charE (e1 i hi) (e2 i hi)) ?_
  refine yK_v rfl ?_
  refine ys_ret r_313_15 (xr_charE rfl (e2 i hi)) ?_
  exact k

theorem stA_12 : StA 38 9 (xfB 12) := ⟨fun h => rfl, fun S d h Q k => s_312_12 k, fun i hi S d h Q k => s_313_12 hi k, by decide, by decide +kernel⟩
theorem s_312_13 {S : XSc} {d : Nat} {h : XH} {Q : XO → XH → Prop} (k : Q (.inl (some (.int (nI 6)))) h) : yP S (d + 1) 312 0 [(0, .ref 39)] [] h Q := by
  refine ys_f 1 r_312_0 rfl ?_
  refine ys_ext 4 r_312_1 rfl rfl rfl rfl ?_
  refine ys_len 5 r_312_4 rfl (yarr_r rfl rfl) ?_
  refine ys_f 6 r_312_5 rfl ?_
  refine ys_call (lv2 := [(0, _)]) r_312_6 rfl rfl (by decide) (by rfl) rfl ?_
  refine ys_gst 3 r_314_0 rfl ?_
  refine ys_f 6 r_314_3 rfl ?_
  refine ys_f 7 r_314_6 rfl ?_
  refine ys_ext 10 r_314_7 rfl rfl rfl rfl ?_
  refine ys_f 14 r_314_10 rfl ?_
  refine ys_ret r_314_14 rfl ?_
  refine yK_v rfl ?_
  refine ys_f 10 r_312_9 rfl ?_
  refine ys_ret r_312_10 rfl ?_
  exact k

theorem s_313_13 {S : XSc} {d : Nat} {h : XH} {Q : XO → XH → Prop} {i : Nat} (hi : i < 6) (k : Q (.inl (some (.int ((xfB 13).getD i 0)))) h) : yP S (d + 1) 313 0 [(0, .ref 39), (1, .int (nI i))] [] h Q := by
  refine ys_f 1 r_313_0 rfl ?_
  refine ys_call (lv2 := [(0, _)]) r_313_1 rfl rfl (by decide) (by rfl) rfl ?_
  refine ys_gst 3 r_315_0 rfl ?_
  refine ys_f 6 r_315_3 rfl ?_
  refine ys_f 7 r_315_6 rfl ?_
  refine ys_ext 10 r_315_7 rfl rfl rfl rfl ?_
  refine ys_f 13 r_315_10 rfl ?_
  refine ys_f 14 r_315_13 rfl ?_
  refine ys_f 18 r_315_14 rfl ?_
  refine ys_ret r_315_18 rfl ?_
  refine yK_v rfl ?_
  refine ys_f 7 r_313_4 rfl ?_
  refine ys_f 8 r_313_7 rfl ?_
  refine ys_ext 11 r_313_8 rfl rfl rfl rfl ?_
  refine ys_f 12 r_313_11 rfl ?_
  refine ys_call (lv2 := [(0, _), (1, _)]) r_313_12 rfl rfl (by decide) (xcan_1 rfl) rfl ?_
  refine ys_f 1 r_316_0 rfl ?_
  refine ys_f 2 r_316_1 rfl ?_
  refine ys_len 3 r_316_2 rfl (yarr_r rfl rfl) ?_
  refine ys_ext 6 r_316_3 rfl rfl (ycki_nI hi (by decide)) rfl ?_
  refine ys_f 7 r_316_6 rfl ?_
  refine ys_f 8 r_316_7 rfl ?_
  refine ys_ald 9 5 r_316_8 (fun _ _ => rfl) rfl rfl rfl (j := i) rfl (yarr_r rfl rfl) rfl (by exact hi) (by decide) rfl ?_
  refine ys_f 12 r_316_9 rfl ?_
  refine ys_f 13 r_316_12 rfl ?_
  refine ys_f 14 r_316_13 rfl ?_
  have e1 : ∀ i : Nat, i < 6 → ((((xfB 13).getD i 0) &&& 255).toUInt32 % 65536).toInt32 = (xfB 13).getD i 0 := by decide +kernel
  have e2 : ∀ i : Nat, i < 6 → vp_nar .char ((xfB 13).getD i 0) = (xfB 13).getD i 0 := by decide +kernel
  refine ys_ret r_316_14 (xr_charE (e1 i hi) (e2 i hi)) ?_
  refine yK_v rfl ?_
  refine ys_ret r_313_15 (xr_charE rfl (e2 i hi)) ?_
  exact k

theorem stA_13 : StA 39 6 (xfB 13) := ⟨fun h => rfl, fun S d h Q k => s_312_13 k, fun i hi S d h Q k => s_313_13 hi k, by decide, by decide +kernel⟩
theorem s_312_14 {S : XSc} {d : Nat} {h : XH} {Q : XO → XH → Prop} (k : Q (.inl (some (.int (nI 7)))) h) : yP S (d + 1) 312 0 [(0, .ref 40)] [] h Q := by
  refine ys_f 1 r_312_0 rfl ?_
  refine ys_ext 4 r_312_1 rfl rfl rfl rfl ?_
  refine ys_len 5 r_312_4 rfl (yarr_r rfl rfl) ?_
  refine ys_f 6 r_312_5 rfl ?_
  refine ys_call (lv2 := [(0, _)]) r_312_6 rfl rfl (by decide) (by rfl) rfl ?_
  refine ys_gst 3 r_314_0 rfl ?_
  refine ys_f 6 r_314_3 rfl ?_
  refine ys_f 7 r_314_6 rfl ?_
  refine ys_ext 10 r_314_7 rfl rfl rfl rfl ?_
  refine ys_f 14 r_314_10 rfl ?_
  refine ys_ret r_314_14 rfl ?_
  refine yK_v rfl ?_
  refine ys_f 10 r_312_9 rfl ?_
  refine ys_ret r_312_10 rfl ?_
  exact k

theorem s_313_14 {S : XSc} {d : Nat} {h : XH} {Q : XO → XH → Prop} {i : Nat} (hi : i < 7) (k : Q (.inl (some (.int ((xfB 14).getD i 0)))) h) : yP S (d + 1) 313 0 [(0, .ref 40), (1, .int (nI i))] [] h Q := by
  refine ys_f 1 r_313_0 rfl ?_
  refine ys_call (lv2 := [(0, _)]) r_313_1 rfl rfl (by decide) (by rfl) rfl ?_
  refine ys_gst 3 r_315_0 rfl ?_
  refine ys_f 6 r_315_3 rfl ?_
  refine ys_f 7 r_315_6 rfl ?_
  refine ys_ext 10 r_315_7 rfl rfl rfl rfl ?_
  refine ys_f 13 r_315_10 rfl ?_
  refine ys_f 14 r_315_13 rfl ?_
  refine ys_f 18 r_315_14 rfl ?_
  refine ys_ret r_315_18 rfl ?_
  refine yK_v rfl ?_
  refine ys_f 7 r_313_4 rfl ?_
  refine ys_f 8 r_313_7 rfl ?_
  refine ys_ext 11 r_313_8 rfl rfl rfl rfl ?_
  refine ys_f 12 r_313_11 rfl ?_
  refine ys_call (lv2 := [(0, _), (1, _)]) r_313_12 rfl rfl (by decide) (xcan_1 rfl) rfl ?_
  refine ys_f 1 r_316_0 rfl ?_
  refine ys_f 2 r_316_1 rfl ?_
  refine ys_len 3 r_316_2 rfl (yarr_r rfl rfl) ?_
  refine ys_ext 6 r_316_3 rfl rfl (ycki_nI hi (by decide)) rfl ?_
  refine ys_f 7 r_316_6 rfl ?_
  refine ys_f 8 r_316_7 rfl ?_
  refine ys_ald 9 5 r_316_8 (fun _ _ => rfl) rfl rfl rfl (j := i) rfl (yarr_r rfl rfl) rfl (by exact hi) (by decide) rfl ?_
  refine ys_f 12 r_316_9 rfl ?_
  refine ys_f 13 r_316_12 rfl ?_
  refine ys_f 14 r_316_13 rfl ?_
  have e1 : ∀ i : Nat, i < 7 → ((((xfB 14).getD i 0) &&& 255).toUInt32 % 65536).toInt32 = (xfB 14).getD i 0 := by decide +kernel
  have e2 : ∀ i : Nat, i < 7 → vp_nar .char ((xfB 14).getD i 0) = (xfB 14).getD i 0 := by decide +kernel
  refine ys_ret r_316_14 (xr_charE (e1 i hi) (e2 i hi)) ?_
  refine yK_v rfl ?_
  refine ys_ret r_313_15 (xr_charE rfl (e2 i hi)) ?_
  exact k

theorem stA_14 : StA 40 7 (xfB 14) := ⟨fun h => rfl, fun S d h Q k => s_312_14 k, fun i hi S d h Q k => s_313_14 hi k, by decide, by decide +kernel⟩
theorem s_312_15 {S : XSc} {d : Nat} {h : XH} {Q : XO → XH → Prop} (k : Q (.inl (some (.int (nI 0)))) h) : yP S (d + 1) 312 0 [(0, .ref 41)] [] h Q := by
  refine ys_f 1 r_312_0 rfl ?_
  refine ys_ext 4 r_312_1 rfl rfl rfl rfl ?_
  refine ys_len 5 r_312_4 rfl (yarr_r rfl rfl) ?_
  refine ys_f 6 r_312_5 rfl ?_
  refine ys_call (lv2 := [(0, _)]) r_312_6 rfl rfl (by decide) (by rfl) rfl ?_
  refine ys_gst 3 r_314_0 rfl ?_
  refine ys_f 6 r_314_3 rfl ?_
  refine ys_f 7 r_314_6 rfl ?_
  refine ys_ext 10 r_314_7 rfl rfl rfl rfl ?_
  refine ys_f 14 r_314_10 rfl ?_
  refine ys_ret r_314_14 rfl ?_
  refine yK_v rfl ?_
  refine ys_f 10 r_312_9 rfl ?_
  refine ys_ret r_312_10 rfl ?_
  exact k

theorem stA_15 : StA 41 0 (xfB 15) := ⟨fun h => rfl, fun S d h Q k => s_312_15 k, fun i hi => absurd hi (Nat.not_lt_zero _), by decide, by decide +kernel⟩
theorem s_312_16 {S : XSc} {d : Nat} {h : XH} {Q : XO → XH → Prop} (k : Q (.inl (some (.int (nI 6)))) h) : yP S (d + 1) 312 0 [(0, .ref 42)] [] h Q := by
  refine ys_f 1 r_312_0 rfl ?_
  refine ys_ext 4 r_312_1 rfl rfl rfl rfl ?_
  refine ys_len 5 r_312_4 rfl (yarr_r rfl rfl) ?_
  refine ys_f 6 r_312_5 rfl ?_
  refine ys_call (lv2 := [(0, _)]) r_312_6 rfl rfl (by decide) (by rfl) rfl ?_
  refine ys_gst 3 r_314_0 rfl ?_
  refine ys_f 6 r_314_3 rfl ?_
  refine ys_f 7 r_314_6 rfl ?_
  refine ys_ext 10 r_314_7 rfl rfl rfl rfl ?_
  refine ys_f 14 r_314_10 rfl ?_
  refine ys_ret r_314_14 rfl ?_
  refine yK_v rfl ?_
  refine ys_f 10 r_312_9 rfl ?_
  refine ys_ret r_312_10 rfl ?_
  exact k

theorem s_313_16 {S : XSc} {d : Nat} {h : XH} {Q : XO → XH → Prop} {i : Nat} (hi : i < 6) (k : Q (.inl (some (.int ((xfB 16).getD i 0)))) h) : yP S (d + 1) 313 0 [(0, .ref 42), (1, .int (nI i))] [] h Q := by
  refine ys_f 1 r_313_0 rfl ?_
  refine ys_call (lv2 := [(0, _)]) r_313_1 rfl rfl (by decide) (by rfl) rfl ?_
  refine ys_gst 3 r_315_0 rfl ?_
  refine ys_f 6 r_315_3 rfl ?_
  refine ys_f 7 r_315_6 rfl ?_
  refine ys_ext 10 r_315_7 rfl rfl rfl rfl ?_
  refine ys_f 13 r_315_10 rfl ?_
  refine ys_f 14 r_315_13 rfl ?_
  refine ys_f 18 r_315_14 rfl ?_
  refine ys_ret r_315_18 rfl ?_
  refine yK_v rfl ?_
  refine ys_f 7 r_313_4 rfl ?_
  refine ys_f 8 r_313_7 rfl ?_
  refine ys_ext 11 r_313_8 rfl rfl rfl rfl ?_
  refine ys_f 12 r_313_11 rfl ?_
  refine ys_call (lv2 := [(0, _), (1, _)]) r_313_12 rfl rfl (by decide) (xcan_1 rfl) rfl ?_
  refine ys_f 1 r_316_0 rfl ?_
  refine ys_f 2 r_316_1 rfl ?_
  refine ys_len 3 r_316_2 rfl (yarr_r rfl rfl) ?_
  refine ys_ext 6 r_316_3 rfl rfl (ycki_nI hi (by decide)) rfl ?_
  refine ys_f 7 r_316_6 rfl ?_
  refine ys_f 8 r_316_7 rfl ?_
  refine ys_ald 9 5 r_316_8 (fun _ _ => rfl) rfl rfl rfl (j := i) rfl (yarr_r rfl rfl) rfl (by exact hi) (by decide) rfl ?_
  refine ys_f 12 r_316_9 rfl ?_
  refine ys_f 13 r_316_12 rfl ?_
  refine ys_f 14 r_316_13 rfl ?_
  have e1 : ∀ i : Nat, i < 6 → ((((xfB 16).getD i 0) &&& 255).toUInt32 % 65536).toInt32 = (xfB 16).getD i 0 := by decide +kernel
  have e2 : ∀ i : Nat, i < 6 → vp_nar .char ((xfB 16).getD i 0) = (xfB 16).getD i 0 := by decide +kernel
  refine ys_ret r_316_14 (xr_charE (e1 i hi) (e2 i hi)) ?_
  refine yK_v rfl ?_
  refine ys_ret r_313_15 (xr_charE rfl (e2 i hi)) ?_
  exact k

theorem stA_16 : StA 42 6 (xfB 16) := ⟨fun h => rfl, fun S d h Q k => s_312_16 k, fun i hi S d h Q k => s_313_16 hi k, by decide, by decide +kernel⟩
theorem s_312_17 {S : XSc} {d : Nat} {h : XH} {Q : XO → XH → Prop} (k : Q (.inl (some (.int (nI 11)))) h) : yP S (d + 1) 312 0 [(0, .ref 43)] [] h Q := by
  refine ys_f 1 r_312_0 rfl ?_
  refine ys_ext 4 r_312_1 rfl rfl rfl rfl ?_
  refine ys_len 5 r_312_4 rfl (yarr_r rfl rfl) ?_
  refine ys_f 6 r_312_5 rfl ?_
  refine ys_call (lv2 := [(0, _)]) r_312_6 rfl rfl (by decide) (by rfl) rfl ?_
  refine ys_gst 3 r_314_0 rfl ?_
  refine ys_f 6 r_314_3 rfl ?_
  refine ys_f 7 r_314_6 rfl ?_
  refine ys_ext 10 r_314_7 rfl rfl rfl rfl ?_
  refine ys_f 14 r_314_10 rfl ?_
  refine ys_ret r_314_14 rfl ?_
  refine yK_v rfl ?_
  refine ys_f 10 r_312_9 rfl ?_
  refine ys_ret r_312_10 rfl ?_
  exact k

theorem s_313_17 {S : XSc} {d : Nat} {h : XH} {Q : XO → XH → Prop} {i : Nat} (hi : i < 11) (k : Q (.inl (some (.int ((xfB 17).getD i 0)))) h) : yP S (d + 1) 313 0 [(0, .ref 43), (1, .int (nI i))] [] h Q := by
  refine ys_f 1 r_313_0 rfl ?_
  refine ys_call (lv2 := [(0, _)]) r_313_1 rfl rfl (by decide) (by rfl) rfl ?_
  refine ys_gst 3 r_315_0 rfl ?_
  refine ys_f 6 r_315_3 rfl ?_
  refine ys_f 7 r_315_6 rfl ?_
  refine ys_ext 10 r_315_7 rfl rfl rfl rfl ?_
  refine ys_f 13 r_315_10 rfl ?_
  refine ys_f 14 r_315_13 rfl ?_
  refine ys_f 18 r_315_14 rfl ?_
  refine ys_ret r_315_18 rfl ?_
  refine yK_v rfl ?_
  refine ys_f 7 r_313_4 rfl ?_
  refine ys_f 8 r_313_7 rfl ?_
  refine ys_ext 11 r_313_8 rfl rfl rfl rfl ?_
  refine ys_f 12 r_313_11 rfl ?_
  refine ys_call (lv2 := [(0, _), (1, _)]) r_313_12 rfl rfl (by decide) (xcan_1 rfl) rfl ?_
  refine ys_f 1 r_316_0 rfl ?_
  refine ys_f 2 r_316_1 rfl ?_
  refine ys_len 3 r_316_2 rfl (yarr_r rfl rfl) ?_
  refine ys_ext 6 r_316_3 rfl rfl (ycki_nI hi (by decide)) rfl ?_
  refine ys_f 7 r_316_6 rfl ?_
  refine ys_f 8 r_316_7 rfl ?_
  refine ys_ald 9 5 r_316_8 (fun _ _ => rfl) rfl rfl rfl (j := i) rfl (yarr_r rfl rfl) rfl (by exact hi) (by decide) rfl ?_
  refine ys_f 12 r_316_9 rfl ?_
  refine ys_f 13 r_316_12 rfl ?_
  refine ys_f 14 r_316_13 rfl ?_
  have e1 : ∀ i : Nat, i < 11 → ((((xfB 17).getD i 0) &&& 255).toUInt32 % 65536).toInt32 = (xfB 17).getD i 0 := by decide +kernel
  have e2 : ∀ i : Nat, i < 11 → vp_nar .char ((xfB 17).getD i 0) = (xfB 17).getD i 0 := by decide +kernel
  refine ys_ret r_316_14 (xr_charE (e1 i hi) (e2 i hi)) ?_
  refine yK_v rfl ?_
  refine ys_ret r_313_15 (xr_charE rfl (e2 i hi)) ?_
  exact k

theorem stA_17 : StA 43 11 (xfB 17) := ⟨fun h => rfl, fun S d h Q k => s_312_17 k, fun i hi S d h Q k => s_313_17 hi k, by decide, by decide +kernel⟩
theorem s_312_18 {S : XSc} {d : Nat} {h : XH} {Q : XO → XH → Prop} (k : Q (.inl (some (.int (nI 17)))) h) : yP S (d + 1) 312 0 [(0, .ref 44)] [] h Q := by
  refine ys_f 1 r_312_0 rfl ?_
  refine ys_ext 4 r_312_1 rfl rfl rfl rfl ?_
  refine ys_len 5 r_312_4 rfl (yarr_r rfl rfl) ?_
  refine ys_f 6 r_312_5 rfl ?_
  refine ys_call (lv2 := [(0, _)]) r_312_6 rfl rfl (by decide) (by rfl) rfl ?_
  refine ys_gst 3 r_314_0 rfl ?_
  refine ys_f 6 r_314_3 rfl ?_
  refine ys_f 7 r_314_6 rfl ?_
  refine ys_ext 10 r_314_7 rfl rfl rfl rfl ?_
  refine ys_f 14 r_314_10 rfl ?_
  refine ys_ret r_314_14 rfl ?_
  refine yK_v rfl ?_
  refine ys_f 10 r_312_9 rfl ?_
  refine ys_ret r_312_10 rfl ?_
  exact k

theorem s_313_18 {S : XSc} {d : Nat} {h : XH} {Q : XO → XH → Prop} {i : Nat} (hi : i < 17) (k : Q (.inl (some (.int ((xfB 18).getD i 0)))) h) : yP S (d + 1) 313 0 [(0, .ref 44), (1, .int (nI i))] [] h Q := by
  refine ys_f 1 r_313_0 rfl ?_
  refine ys_call (lv2 := [(0, _)]) r_313_1 rfl rfl (by decide) (by rfl) rfl ?_
  refine ys_gst 3 r_315_0 rfl ?_
  refine ys_f 6 r_315_3 rfl ?_
  refine ys_f 7 r_315_6 rfl ?_
  refine ys_ext 10 r_315_7 rfl rfl rfl rfl ?_
  refine ys_f 13 r_315_10 rfl ?_
  refine ys_f 14 r_315_13 rfl ?_
  refine ys_f 18 r_315_14 rfl ?_
  refine ys_ret r_315_18 rfl ?_
  refine yK_v rfl ?_
  refine ys_f 7 r_313_4 rfl ?_
  refine ys_f 8 r_313_7 rfl ?_
  refine ys_ext 11 r_313_8 rfl rfl rfl rfl ?_
  refine ys_f 12 r_313_11 rfl ?_
  refine ys_call (lv2 := [(0, _), (1, _)]) r_313_12 rfl rfl (by decide) (xcan_1 rfl) rfl ?_
  refine ys_f 1 r_316_0 rfl ?_
  refine ys_f 2 r_316_1 rfl ?_
  refine ys_len 3 r_316_2 rfl (yarr_r rfl rfl) ?_
  refine ys_ext 6 r_316_3 rfl rfl (ycki_nI hi (by decide)) rfl ?_
  refine ys_f 7 r_316_6 rfl ?_
  refine ys_f 8 r_316_7 rfl ?_
  refine ys_ald 9 5 r_316_8 (fun _ _ => rfl) rfl rfl rfl (j := i) rfl (yarr_r rfl rfl) rfl (by exact hi) (by decide) rfl ?_
  refine ys_f 12 r_316_9 rfl ?_
  refine ys_f 13 r_316_12 rfl ?_
  refine ys_f 14 r_316_13 rfl ?_
  have e1 : ∀ i : Nat, i < 17 → ((((xfB 18).getD i 0) &&& 255).toUInt32 % 65536).toInt32 = (xfB 18).getD i 0 := by decide +kernel
  have e2 : ∀ i : Nat, i < 17 → vp_nar .char ((xfB 18).getD i 0) = (xfB 18).getD i 0 := by decide +kernel
  refine ys_ret r_316_14 (xr_charE (e1 i hi) (e2 i hi)) ?_
  refine yK_v rfl ?_
  refine ys_ret r_313_15 (xr_charE rfl (e2 i hi)) ?_
  exact k

theorem stA_18 : StA 44 17 (xfB 18) := ⟨fun h => rfl, fun S d h Q k => s_312_18 k, fun i hi S d h Q k => s_313_18 hi k, by decide, by decide +kernel⟩
theorem s_312_19 {S : XSc} {d : Nat} {h : XH} {Q : XO → XH → Prop} (k : Q (.inl (some (.int (nI 1)))) h) : yP S (d + 1) 312 0 [(0, .ref 45)] [] h Q := by
  refine ys_f 1 r_312_0 rfl ?_
  refine ys_ext 4 r_312_1 rfl rfl rfl rfl ?_
  refine ys_len 5 r_312_4 rfl (yarr_r rfl rfl) ?_
  refine ys_f 6 r_312_5 rfl ?_
  refine ys_call (lv2 := [(0, _)]) r_312_6 rfl rfl (by decide) (by rfl) rfl ?_
  refine ys_gst 3 r_314_0 rfl ?_
  refine ys_f 6 r_314_3 rfl ?_
  refine ys_f 7 r_314_6 rfl ?_
  refine ys_ext 10 r_314_7 rfl rfl rfl rfl ?_
  refine ys_f 14 r_314_10 rfl ?_
  refine ys_ret r_314_14 rfl ?_
  refine yK_v rfl ?_
  refine ys_f 10 r_312_9 rfl ?_
  refine ys_ret r_312_10 rfl ?_
  exact k

theorem s_313_19 {S : XSc} {d : Nat} {h : XH} {Q : XO → XH → Prop} {i : Nat} (hi : i < 1) (k : Q (.inl (some (.int ((xfB 19).getD i 0)))) h) : yP S (d + 1) 313 0 [(0, .ref 45), (1, .int (nI i))] [] h Q := by
  refine ys_f 1 r_313_0 rfl ?_
  refine ys_call (lv2 := [(0, _)]) r_313_1 rfl rfl (by decide) (by rfl) rfl ?_
  refine ys_gst 3 r_315_0 rfl ?_
  refine ys_f 6 r_315_3 rfl ?_
  refine ys_f 7 r_315_6 rfl ?_
  refine ys_ext 10 r_315_7 rfl rfl rfl rfl ?_
  refine ys_f 13 r_315_10 rfl ?_
  refine ys_f 14 r_315_13 rfl ?_
  refine ys_f 18 r_315_14 rfl ?_
  refine ys_ret r_315_18 rfl ?_
  refine yK_v rfl ?_
  refine ys_f 7 r_313_4 rfl ?_
  refine ys_f 8 r_313_7 rfl ?_
  refine ys_ext 11 r_313_8 rfl rfl rfl rfl ?_
  refine ys_f 12 r_313_11 rfl ?_
  refine ys_call (lv2 := [(0, _), (1, _)]) r_313_12 rfl rfl (by decide) (xcan_1 rfl) rfl ?_
  refine ys_f 1 r_316_0 rfl ?_
  refine ys_f 2 r_316_1 rfl ?_
  refine ys_len 3 r_316_2 rfl (yarr_r rfl rfl) ?_
  refine ys_ext 6 r_316_3 rfl rfl (ycki_nI hi (by decide)) rfl ?_
  refine ys_f 7 r_316_6 rfl ?_
  refine ys_f 8 r_316_7 rfl ?_
  refine ys_ald 9 5 r_316_8 (fun _ _ => rfl) rfl rfl rfl (j := i) rfl (yarr_r rfl rfl) rfl (by exact hi) (by decide) rfl ?_
  refine ys_f 12 r_316_9 rfl ?_
  refine ys_f 13 r_316_12 rfl ?_
  refine ys_f 14 r_316_13 rfl ?_
  have e1 : ∀ i : Nat, i < 1 → ((((xfB 19).getD i 0) &&& 255).toUInt32 % 65536).toInt32 = (xfB 19).getD i 0 := by decide +kernel
  have e2 : ∀ i : Nat, i < 1 → vp_nar .char ((xfB 19).getD i 0) = (xfB 19).getD i 0 := by decide +kernel
  refine ys_ret r_316_14 (xr_charE (e1 i hi) (e2 i hi)) ?_
  refine yK_v rfl ?_
  refine ys_ret r_313_15 (xr_charE rfl (e2 i hi)) ?_
  exact k

theorem stA_19 : StA 45 1 (xfB 19) := ⟨fun h => rfl, fun S d h Q k => s_312_19 k, fun i hi S d h Q k => s_313_19 hi k, by decide, by decide +kernel⟩
theorem s_312_20 {S : XSc} {d : Nat} {h : XH} {Q : XO → XH → Prop} (k : Q (.inl (some (.int (nI 34)))) h) : yP S (d + 1) 312 0 [(0, .ref 46)] [] h Q := by
  refine ys_f 1 r_312_0 rfl ?_
  refine ys_ext 4 r_312_1 rfl rfl rfl rfl ?_
  refine ys_len 5 r_312_4 rfl (yarr_r rfl rfl) ?_
  refine ys_f 6 r_312_5 rfl ?_
  refine ys_call (lv2 := [(0, _)]) r_312_6 rfl rfl (by decide) (by rfl) rfl ?_
  refine ys_gst 3 r_314_0 rfl ?_
  refine ys_f 6 r_314_3 rfl ?_
  refine ys_f 7 r_314_6 rfl ?_
  refine ys_ext 10 r_314_7 rfl rfl rfl rfl ?_
  refine ys_f 14 r_314_10 rfl ?_
  refine ys_ret r_314_14 rfl ?_
  refine yK_v rfl ?_
  refine ys_f 10 r_312_9 rfl ?_
  refine ys_ret r_312_10 rfl ?_
  exact k

theorem s_313_20 {S : XSc} {d : Nat} {h : XH} {Q : XO → XH → Prop} {i : Nat} (hi : i < 34) (k : Q (.inl (some (.int ((xfB 20).getD i 0)))) h) : yP S (d + 1) 313 0 [(0, .ref 46), (1, .int (nI i))] [] h Q := by
  refine ys_f 1 r_313_0 rfl ?_
  refine ys_call (lv2 := [(0, _)]) r_313_1 rfl rfl (by decide) (by rfl) rfl ?_
  refine ys_gst 3 r_315_0 rfl ?_
  refine ys_f 6 r_315_3 rfl ?_
  refine ys_f 7 r_315_6 rfl ?_
  refine ys_ext 10 r_315_7 rfl rfl rfl rfl ?_
  refine ys_f 13 r_315_10 rfl ?_
  refine ys_f 14 r_315_13 rfl ?_
  refine ys_f 18 r_315_14 rfl ?_
  refine ys_ret r_315_18 rfl ?_
  refine yK_v rfl ?_
  refine ys_f 7 r_313_4 rfl ?_
  refine ys_f 8 r_313_7 rfl ?_
  refine ys_ext 11 r_313_8 rfl rfl rfl rfl ?_
  refine ys_f 12 r_313_11 rfl ?_
  refine ys_call (lv2 := [(0, _), (1, _)]) r_313_12 rfl rfl (by decide) (xcan_1 rfl) rfl ?_
  refine ys_f 1 r_316_0 rfl ?_
  refine ys_f 2 r_316_1 rfl ?_
  refine ys_len 3 r_316_2 rfl (yarr_r rfl rfl) ?_
  refine ys_ext 6 r_316_3 rfl rfl (ycki_nI hi (by decide)) rfl ?_
  refine ys_f 7 r_316_6 rfl ?_
  refine ys_f 8 r_316_7 rfl ?_
  refine ys_ald 9 5 r_316_8 (fun _ _ => rfl) rfl rfl rfl (j := i) rfl (yarr_r rfl rfl) rfl (by exact hi) (by decide) rfl ?_
  refine ys_f 12 r_316_9 rfl ?_
  refine ys_f 13 r_316_12 rfl ?_
  refine ys_f 14 r_316_13 rfl ?_
  have e1 : ∀ i : Nat, i < 34 → ((((xfB 20).getD i 0) &&& 255).toUInt32 % 65536).toInt32 = (xfB 20).getD i 0 := by decide +kernel
  have e2 : ∀ i : Nat, i < 34 → vp_nar .char ((xfB 20).getD i 0) = (xfB 20).getD i 0 := by decide +kernel
  refine ys_ret r_316_14 (xr_charE (e1 i hi) (e2 i hi)) ?_
  refine yK_v rfl ?_
  refine ys_ret r_313_15 (xr_charE rfl (e2 i hi)) ?_
  exact k

theorem stA_20 : StA 46 34 (xfB 20) := ⟨fun h => rfl, fun S d h Q k => s_312_20 k, fun i hi S d h Q k => s_313_20 hi k, by decide, by decide +kernel⟩
theorem s_312_21 {S : XSc} {d : Nat} {h : XH} {Q : XO → XH → Prop} (k : Q (.inl (some (.int (nI 7)))) h) : yP S (d + 1) 312 0 [(0, .ref 47)] [] h Q := by
  refine ys_f 1 r_312_0 rfl ?_
  refine ys_ext 4 r_312_1 rfl rfl rfl rfl ?_
  refine ys_len 5 r_312_4 rfl (yarr_r rfl rfl) ?_
  refine ys_f 6 r_312_5 rfl ?_
  refine ys_call (lv2 := [(0, _)]) r_312_6 rfl rfl (by decide) (by rfl) rfl ?_
  refine ys_gst 3 r_314_0 rfl ?_
  refine ys_f 6 r_314_3 rfl ?_
  refine ys_f 7 r_314_6 rfl ?_
  refine ys_ext 10 r_314_7 rfl rfl rfl rfl ?_
  refine ys_f 14 r_314_10 rfl ?_
  refine ys_ret r_314_14 rfl ?_
  refine yK_v rfl ?_
  refine ys_f 10 r_312_9 rfl ?_
  refine ys_ret r_312_10 rfl ?_
  exact k

theorem s_313_21 {S : XSc} {d : Nat} {h : XH} {Q : XO → XH → Prop} {i : Nat} (hi : i < 7) (k : Q (.inl (some (.int ((xfB 21).getD i 0)))) h) : yP S (d + 1) 313 0 [(0, .ref 47), (1, .int (nI i))] [] h Q := by
  refine ys_f 1 r_313_0 rfl ?_
  refine ys_call (lv2 := [(0, _)]) r_313_1 rfl rfl (by decide) (by rfl) rfl ?_
  refine ys_gst 3 r_315_0 rfl ?_
  refine ys_f 6 r_315_3 rfl ?_
  refine ys_f 7 r_315_6 rfl ?_
  refine ys_ext 10 r_315_7 rfl rfl rfl rfl ?_
  refine ys_f 13 r_315_10 rfl ?_
  refine ys_f 14 r_315_13 rfl ?_
  refine ys_f 18 r_315_14 rfl ?_
  refine ys_ret r_315_18 rfl ?_
  refine yK_v rfl ?_
  refine ys_f 7 r_313_4 rfl ?_
  refine ys_f 8 r_313_7 rfl ?_
  refine ys_ext 11 r_313_8 rfl rfl rfl rfl ?_
  refine ys_f 12 r_313_11 rfl ?_
  refine ys_call (lv2 := [(0, _), (1, _)]) r_313_12 rfl rfl (by decide) (xcan_1 rfl) rfl ?_
  refine ys_f 1 r_316_0 rfl ?_
  refine ys_f 2 r_316_1 rfl ?_
  refine ys_len 3 r_316_2 rfl (yarr_r rfl rfl) ?_
  refine ys_ext 6 r_316_3 rfl rfl (ycki_nI hi (by decide)) rfl ?_
  refine ys_f 7 r_316_6 rfl ?_
  refine ys_f 8 r_316_7 rfl ?_
  refine ys_ald 9 5 r_316_8 (fun _ _ => rfl) rfl rfl rfl (j := i) rfl (yarr_r rfl rfl) rfl (by exact hi) (by decide) rfl ?_
  refine ys_f 12 r_316_9 rfl ?_
  refine ys_f 13 r_316_12 rfl ?_
  refine ys_f 14 r_316_13 rfl ?_
  have e1 : ∀ i : Nat, i < 7 → ((((xfB 21).getD i 0) &&& 255).toUInt32 % 65536).toInt32 = (xfB 21).getD i 0 := by decide +kernel
  have e2 : ∀ i : Nat, i < 7 → vp_nar .char ((xfB 21).getD i 0) = (xfB 21).getD i 0 := by decide +kernel
  refine ys_ret r_316_14 (xr_charE (e1 i hi) (e2 i hi)) ?_
  refine yK_v rfl ?_
  refine ys_ret r_313_15 (xr_charE rfl (e2 i hi)) ?_
  exact k

theorem stA_21 : StA 47 7 (xfB 21) := ⟨fun h => rfl, fun S d h Q k => s_312_21 k, fun i hi S d h Q k => s_313_21 hi k, by decide, by decide +kernel⟩
theorem s_312_22 {S : XSc} {d : Nat} {h : XH} {Q : XO → XH → Prop} (k : Q (.inl (some (.int (nI 1)))) h) : yP S (d + 1) 312 0 [(0, .ref 48)] [] h Q := by
  refine ys_f 1 r_312_0 rfl ?_
  refine ys_ext 4 r_312_1 rfl rfl rfl rfl ?_
  refine ys_len 5 r_312_4 rfl (yarr_r rfl rfl) ?_
  refine ys_f 6 r_312_5 rfl ?_
  refine ys_call (lv2 := [(0, _)]) r_312_6 rfl rfl (by decide) (by rfl) rfl ?_
  refine ys_gst 3 r_314_0 rfl ?_
  refine ys_f 6 r_314_3 rfl ?_
  refine ys_f 7 r_314_6 rfl ?_
  refine ys_ext 10 r_314_7 rfl rfl rfl rfl ?_
  refine ys_f 14 r_314_10 rfl ?_
  refine ys_ret r_314_14 rfl ?_
  refine yK_v rfl ?_
  refine ys_f 10 r_312_9 rfl ?_
  refine ys_ret r_312_10 rfl ?_
  exact k

theorem s_313_22 {S : XSc} {d : Nat} {h : XH} {Q : XO → XH → Prop} {i : Nat} (hi : i < 1) (k : Q (.inl (some (.int ((xfB 22).getD i 0)))) h) : yP S (d + 1) 313 0 [(0, .ref 48), (1, .int (nI i))] [] h Q := by
  refine ys_f 1 r_313_0 rfl ?_
  refine ys_call (lv2 := [(0, _)]) r_313_1 rfl rfl (by decide) (by rfl) rfl ?_
  refine ys_gst 3 r_315_0 rfl ?_
  refine ys_f 6 r_315_3 rfl ?_
  refine ys_f 7 r_315_6 rfl ?_
  refine ys_ext 10 r_315_7 rfl rfl rfl rfl ?_
  refine ys_f 13 r_315_10 rfl ?_
  refine ys_f 14 r_315_13 rfl ?_
  refine ys_f 18 r_315_14 rfl ?_
  refine ys_ret r_315_18 rfl ?_
  refine yK_v rfl ?_
  refine ys_f 7 r_313_4 rfl ?_
  refine ys_f 8 r_313_7 rfl ?_
  refine ys_ext 11 r_313_8 rfl rfl rfl rfl ?_
  refine ys_f 12 r_313_11 rfl ?_
  refine ys_call (lv2 := [(0, _), (1, _)]) r_313_12 rfl rfl (by decide) (xcan_1 rfl) rfl ?_
  refine ys_f 1 r_316_0 rfl ?_
  refine ys_f 2 r_316_1 rfl ?_
  refine ys_len 3 r_316_2 rfl (yarr_r rfl rfl) ?_
  refine ys_ext 6 r_316_3 rfl rfl (ycki_nI hi (by decide)) rfl ?_
  refine ys_f 7 r_316_6 rfl ?_
  refine ys_f 8 r_316_7 rfl ?_
  refine ys_ald 9 5 r_316_8 (fun _ _ => rfl) rfl rfl rfl (j := i) rfl (yarr_r rfl rfl) rfl (by exact hi) (by decide) rfl ?_
  refine ys_f 12 r_316_9 rfl ?_
  refine ys_f 13 r_316_12 rfl ?_
  refine ys_f 14 r_316_13 rfl ?_
  have e1 : ∀ i : Nat, i < 1 → ((((xfB 22).getD i 0) &&& 255).toUInt32 % 65536).toInt32 = (xfB 22).getD i 0 := by decide +kernel
  have e2 : ∀ i : Nat, i < 1 → vp_nar .char ((xfB 22).getD i 0) = (xfB 22).getD i 0 := by decide +kernel
  refine ys_ret r_316_14 (xr_charE (e1 i hi) (e2 i hi)) ?_
  refine yK_v rfl ?_
  refine ys_ret r_313_15 (xr_charE rfl (e2 i hi)) ?_
  exact k

theorem stA_22 : StA 48 1 (xfB 22) := ⟨fun h => rfl, fun S d h Q k => s_312_22 k, fun i hi S d h Q k => s_313_22 hi k, by decide, by decide +kernel⟩
theorem s_312_23 {S : XSc} {d : Nat} {h : XH} {Q : XO → XH → Prop} (k : Q (.inl (some (.int (nI 5)))) h) : yP S (d + 1) 312 0 [(0, .ref 49)] [] h Q := by
  refine ys_f 1 r_312_0 rfl ?_
  refine ys_ext 4 r_312_1 rfl rfl rfl rfl ?_
  refine ys_len 5 r_312_4 rfl (yarr_r rfl rfl) ?_
  refine ys_f 6 r_312_5 rfl ?_
  refine ys_call (lv2 := [(0, _)]) r_312_6 rfl rfl (by decide) (by rfl) rfl ?_
  refine ys_gst 3 r_314_0 rfl ?_
  refine ys_f 6 r_314_3 rfl ?_
  refine ys_f 7 r_314_6 rfl ?_
  refine ys_ext 10 r_314_7 rfl rfl rfl rfl ?_
  refine ys_f 14 r_314_10 rfl ?_
  refine ys_ret r_314_14 rfl ?_
  refine yK_v rfl ?_
  refine ys_f 10 r_312_9 rfl ?_
  refine ys_ret r_312_10 rfl ?_
  exact k

theorem s_313_23 {S : XSc} {d : Nat} {h : XH} {Q : XO → XH → Prop} {i : Nat} (hi : i < 5) (k : Q (.inl (some (.int ((xfB 23).getD i 0)))) h) : yP S (d + 1) 313 0 [(0, .ref 49), (1, .int (nI i))] [] h Q := by
  refine ys_f 1 r_313_0 rfl ?_
  refine ys_call (lv2 := [(0, _)]) r_313_1 rfl rfl (by decide) (by rfl) rfl ?_
  refine ys_gst 3 r_315_0 rfl ?_
  refine ys_f 6 r_315_3 rfl ?_
  refine ys_f 7 r_315_6 rfl ?_
  refine ys_ext 10 r_315_7 rfl rfl rfl rfl ?_
  refine ys_f 13 r_315_10 rfl ?_
  refine ys_f 14 r_315_13 rfl ?_
  refine ys_f 18 r_315_14 rfl ?_
  refine ys_ret r_315_18 rfl ?_
  refine yK_v rfl ?_
  refine ys_f 7 r_313_4 rfl ?_
  refine ys_f 8 r_313_7 rfl ?_
  refine ys_ext 11 r_313_8 rfl rfl rfl rfl ?_
  refine ys_f 12 r_313_11 rfl ?_
  refine ys_call (lv2 := [(0, _), (1, _)]) r_313_12 rfl rfl (by decide) (xcan_1 rfl) rfl ?_
  refine ys_f 1 r_316_0 rfl ?_
  refine ys_f 2 r_316_1 rfl ?_
  refine ys_len 3 r_316_2 rfl (yarr_r rfl rfl) ?_
  refine ys_ext 6 r_316_3 rfl rfl (ycki_nI hi (by decide)) rfl ?_
  refine ys_f 7 r_316_6 rfl ?_
  refine ys_f 8 r_316_7 rfl ?_
  refine ys_ald 9 5 r_316_8 (fun _ _ => rfl) rfl rfl rfl (j := i) rfl (yarr_r rfl rfl) rfl (by exact hi) (by decide) rfl ?_
  refine ys_f 12 r_316_9 rfl ?_
  refine ys_f 13 r_316_12 rfl ?_
  refine ys_f 14 r_316_13 rfl ?_
  have e1 : ∀ i : Nat, i < 5 → ((((xfB 23).getD i 0) &&& 255).toUInt32 % 65536).toInt32 = (xfB 23).getD i 0 := by decide +kernel
  have e2 : ∀ i : Nat, i < 5 → vp_nar .char ((xfB 23).getD i 0) = (xfB 23).getD i 0 := by decide +kernel
  refine ys_ret r_316_14 (xr_charE (e1 i hi) (e2 i hi)) ?_
  refine yK_v rfl ?_
  refine ys_ret r_313_15 (xr_charE rfl (e2 i hi)) ?_
  exact k

theorem stA_23 : StA 49 5 (xfB 23) := ⟨fun h => rfl, fun S d h Q k => s_312_23 k, fun i hi S d h Q k => s_313_23 hi k, by decide, by decide +kernel⟩
theorem s_312_24 {S : XSc} {d : Nat} {h : XH} {Q : XO → XH → Prop} (k : Q (.inl (some (.int (nI 5)))) h) : yP S (d + 1) 312 0 [(0, .ref 50)] [] h Q := by
  refine ys_f 1 r_312_0 rfl ?_
  refine ys_ext 4 r_312_1 rfl rfl rfl rfl ?_
  refine ys_len 5 r_312_4 rfl (yarr_r rfl rfl) ?_
  refine ys_f 6 r_312_5 rfl ?_
  refine ys_call (lv2 := [(0, _)]) r_312_6 rfl rfl (by decide) (by rfl) rfl ?_
  refine ys_gst 3 r_314_0 rfl ?_
  refine ys_f 6 r_314_3 rfl ?_
  refine ys_f 7 r_314_6 rfl ?_
  refine ys_ext 10 r_314_7 rfl rfl rfl rfl ?_
  refine ys_f 14 r_314_10 rfl ?_
  refine ys_ret r_314_14 rfl ?_
  refine yK_v rfl ?_
  refine ys_f 10 r_312_9 rfl ?_
  refine ys_ret r_312_10 rfl ?_
  exact k

theorem s_313_24 {S : XSc} {d : Nat} {h : XH} {Q : XO → XH → Prop} {i : Nat} (hi : i < 5) (k : Q (.inl (some (.int ((xfB 24).getD i 0)))) h) : yP S (d + 1) 313 0 [(0, .ref 50), (1, .int (nI i))] [] h Q := by
  refine ys_f 1 r_313_0 rfl ?_
  refine ys_call (lv2 := [(0, _)]) r_313_1 rfl rfl (by decide) (by rfl) rfl ?_
  refine ys_gst 3 r_315_0 rfl ?_
  refine ys_f 6 r_315_3 rfl ?_
  refine ys_f 7 r_315_6 rfl ?_
  refine ys_ext 10 r_315_7 rfl rfl rfl rfl ?_
  refine ys_f 13 r_315_10 rfl ?_
  refine ys_f 14 r_315_13 rfl ?_
  refine ys_f 18 r_315_14 rfl ?_
  refine ys_ret r_315_18 rfl ?_
  refine yK_v rfl ?_
  refine ys_f 7 r_313_4 rfl ?_
  refine ys_f 8 r_313_7 rfl ?_
  refine ys_ext 11 r_313_8 rfl rfl rfl rfl ?_
  refine ys_f 12 r_313_11 rfl ?_
  refine ys_call (lv2 := [(0, _), (1, _)]) r_313_12 rfl rfl (by decide) (xcan_1 rfl) rfl ?_
  refine ys_f 1 r_316_0 rfl ?_
  refine ys_f 2 r_316_1 rfl ?_
  refine ys_len 3 r_316_2 rfl (yarr_r rfl rfl) ?_
  refine ys_ext 6 r_316_3 rfl rfl (ycki_nI hi (by decide)) rfl ?_
  refine ys_f 7 r_316_6 rfl ?_
  refine ys_f 8 r_316_7 rfl ?_
  refine ys_ald 9 5 r_316_8 (fun _ _ => rfl) rfl rfl rfl (j := i) rfl (yarr_r rfl rfl) rfl (by exact hi) (by decide) rfl ?_
  refine ys_f 12 r_316_9 rfl ?_
  refine ys_f 13 r_316_12 rfl ?_
  refine ys_f 14 r_316_13 rfl ?_
  have e1 : ∀ i : Nat, i < 5 → ((((xfB 24).getD i 0) &&& 255).toUInt32 % 65536).toInt32 = (xfB 24).getD i 0 := by decide +kernel
  have e2 : ∀ i : Nat, i < 5 → vp_nar .char ((xfB 24).getD i 0) = (xfB 24).getD i 0 := by decide +kernel
  refine ys_ret r_316_14 (xr_charE (e1 i hi) (e2 i hi)) ?_
  refine yK_v rfl ?_
  refine ys_ret r_313_15 (xr_charE rfl (e2 i hi)) ?_
  exact k

theorem stA_24 : StA 50 5 (xfB 24) := ⟨fun h => rfl, fun S d h Q k => s_312_24 k, fun i hi S d h Q k => s_313_24 hi k, by decide, by decide +kernel⟩
theorem s_312_25 {S : XSc} {d : Nat} {h : XH} {Q : XO → XH → Prop} (k : Q (.inl (some (.int (nI 2)))) h) : yP S (d + 1) 312 0 [(0, .ref 51)] [] h Q := by
  refine ys_f 1 r_312_0 rfl ?_
  refine ys_ext 4 r_312_1 rfl rfl rfl rfl ?_
  refine ys_len 5 r_312_4 rfl (yarr_r rfl rfl) ?_
  refine ys_f 6 r_312_5 rfl ?_
  refine ys_call (lv2 := [(0, _)]) r_312_6 rfl rfl (by decide) (by rfl) rfl ?_
  refine ys_gst 3 r_314_0 rfl ?_
  refine ys_f 6 r_314_3 rfl ?_
  refine ys_f 7 r_314_6 rfl ?_
  refine ys_ext 10 r_314_7 rfl rfl rfl rfl ?_
  refine ys_f 14 r_314_10 rfl ?_
  refine ys_ret r_314_14 rfl ?_
  refine yK_v rfl ?_
  refine ys_f 10 r_312_9 rfl ?_
  refine ys_ret r_312_10 rfl ?_
  exact k

theorem s_313_25 {S : XSc} {d : Nat} {h : XH} {Q : XO → XH → Prop} {i : Nat} (hi : i < 2) (k : Q (.inl (some (.int ((xfB 25).getD i 0)))) h) : yP S (d + 1) 313 0 [(0, .ref 51), (1, .int (nI i))] [] h Q := by
  refine ys_f 1 r_313_0 rfl ?_
  refine ys_call (lv2 := [(0, _)]) r_313_1 rfl rfl (by decide) (by rfl) rfl ?_
  refine ys_gst 3 r_315_0 rfl ?_
  refine ys_f 6 r_315_3 rfl ?_
  refine ys_f 7 r_315_6 rfl ?_
  refine ys_ext 10 r_315_7 rfl rfl rfl rfl ?_
  refine ys_f 13 r_315_10 rfl ?_
  refine ys_f 14 r_315_13 rfl ?_
  refine ys_f 18 r_315_14 rfl ?_
  refine ys_ret r_315_18 rfl ?_
  refine yK_v rfl ?_
  refine ys_f 7 r_313_4 rfl ?_
  refine ys_f 8 r_313_7 rfl ?_
  refine ys_ext 11 r_313_8 rfl rfl rfl rfl ?_
  refine ys_f 12 r_313_11 rfl ?_
  refine ys_call (lv2 := [(0, _), (1, _)]) r_313_12 rfl rfl (by decide) (xcan_1 rfl) rfl ?_
  refine ys_f 1 r_316_0 rfl ?_
  refine ys_f 2 r_316_1 rfl ?_
  refine ys_len 3 r_316_2 rfl (yarr_r rfl rfl) ?_
  refine ys_ext 6 r_316_3 rfl rfl (ycki_nI hi (by decide)) rfl ?_
  refine ys_f 7 r_316_6 rfl ?_
  refine ys_f 8 r_316_7 rfl ?_
  refine ys_ald 9 5 r_316_8 (fun _ _ => rfl) rfl rfl rfl (j := i) rfl (yarr_r rfl rfl) rfl (by exact hi) (by decide) rfl ?_
  refine ys_f 12 r_316_9 rfl ?_
  refine ys_f 13 r_316_12 rfl ?_
  refine ys_f 14 r_316_13 rfl ?_
  have e1 : ∀ i : Nat, i < 2 → ((((xfB 25).getD i 0) &&& 255).toUInt32 % 65536).toInt32 = (xfB 25).getD i 0 := by decide +kernel
  have e2 : ∀ i : Nat, i < 2 → vp_nar .char ((xfB 25).getD i 0) = (xfB 25).getD i 0 := by decide +kernel
  refine ys_ret r_316_14 (xr_charE (e1 i hi) (e2 i hi)) ?_
  refine yK_v rfl ?_
  refine ys_ret r_313_15 (xr_charE rfl (e2 i hi)) ?_
  exact k

theorem stA_25 : StA 51 2 (xfB 25) := ⟨fun h => rfl, fun S d h Q k => s_312_25 k, fun i hi S d h Q k => s_313_25 hi k, by decide, by decide +kernel⟩
def atV (S : XSc) (j : Nat) : Int32 := if j < S.1 then S.2 j else 0
theorem la_160 {S : XSc} {d : Nat} {h : XH} {Q : XO → XH → Prop} {j : Nat} (hL : S.1 ≤ 260) (hj : j ≤ 100) (k : Q (.inl (some (.int (atV S j)))) h) : yP S d 160 0 [(0, .ref 12), (1, .int (nI j))] [] h Q := by
  refine ys_f 1 r_160_0 rfl ?_
  refine ys_f 2 r_160_1 rfl ?_
  refine ys_len 3 r_160_2 rfl (yarr_r rfl rfl) ?_
  refine ys_if 12 6 r_160_3 rfl (fun hc1 => ?_) (fun hc1 => ?_)
  · have hc1 := (nI_leN rfl rfl (by omega) (by omega)).mp hc1
    rw [show atV S j = 0 from if_neg (by omega)] at k
    refine ys_f 13 r_160_12 rfl ?_
    refine ys_ret r_160_13 rfl ?_
    exact k
  · have hc1 := mt (nI_leN rfl rfl (by omega) (by omega)).mpr hc1
    refine ys_f 7 r_160_6 rfl ?_
    refine ys_f 8 r_160_7 rfl ?_
    refine ys_ald 9 0 r_160_8 (fun _ _ => rfl) rfl rfl rfl (j := j) rfl (yarr_r rfl rfl) rfl (by omega) (by omega) rfl ?_
    refine ys_f 13 r_160_9 rfl ?_
    refine ys_ret r_160_13 rfl ?_
    rw [show atV S j = S.2 j from if_pos (by omega)] at k
    exact k

section CC
variable {S : XSc} {d B b : Nat} {h : XH} {F : Nat → Prop} {Q : XO → XH → Prop} {G H Sv : Nat → Int32} {ch : Nat} {sv : Bool} {ea fa : Int32} {tn : Nat} {Bu : Nat → Int32}
/-- the letters typed -/
def putB (Bu : Nat → Int32) (L : List Int32) : Nat → (Nat → Int32)
  | 0 => Bu
  | n + 1 => xw (putB Bu L n) n (L.getD n 0)
theorem lp_161 {t n : Nat} {L : List Int32} (hs : StA t n L) (hB : B ≤ 800) (k : ∀ h2 F2, AtC h2 b F2 (Ca (B + n) G H Sv ch sv ea fa n (putB Bu L n)) → MvC h h2 F F2 0 0 → Q (.inl none) h2) : ∀ (m : Nat) (i : Nat) (h1 : XH) (F1 : Nat → Prop), n + 1 - i < m → (i ≤ n) → (AtC h1 b F1 (Ca (B + i) G H Sv ch sv ea fa i (putB Bu L i))) → (MvC h h1 F F1 0 0) → yP S (d + 8) 161 2 [(2, .int (nI i)), (0, .ref b), (1, .ref t)] [] h1 Q := by
  intro m
  induction m with
  | zero => intro i h1 F1 hm; exact absurd hm (Nat.not_lt_zero _)
  | succ m ih =>
    intro i h1 F1 hm hi A1 M1
    obtain ⟨s0, s1, s2, s3, s4⟩ := id hs
    obtain ⟨gs, o0⟩ := A1.cell (fun c z => z.o)
    refine ys_f 3 r_161_2 rfl ?_
    refine ys_f 4 r_161_3 rfl ?_
    refine ys_call (lv2 := [(0, _)]) r_161_4 rfl rfl (by decide) (xcan_str rfl rfl (s0 _)) rfl (yP_up (show d + 1 ≤ d + 7 by omega) (s1 S d _ _ ?_))
    refine yK_v rfl ?_
    refine ys_if 26 10 r_161_7 rfl (fun hc1 => ?_) (fun hc1 => ?_)
    · have hc1 := (nI_leN rfl rfl (by omega) (by omega)).mp hc1
      refine ys_ret r_161_26 rfl ?_
      have e9 : i = n := by omega
      subst e9
      exact k _ _ A1 M1
    · have hc1 := mt (nI_leN rfl rfl (by omega) (by omega)).mpr hc1
      refine ys_f 11 r_161_10 rfl ?_
      refine ys_f 12 r_161_11 rfl ?_
      refine ys_f 13 r_161_12 rfl ?_
      refine ys_call (lv2 := [(0, _), (1, _)]) r_161_13 rfl rfl (by decide) (xcan_str rfl rfl (s0 _)) rfl (yP_up (show d + 1 ≤ d + 7 by omega) (s2 i (by omega) S d _ _ ?_))
      refine yK_v rfl ?_
      refine ys_call (lv2 := [(0, _), (1, _)]) r_161_16 rfl rfl (by decide) (xcan_0 rfl rfl (by first | assumption) (by rfl)) rfl (qa_125 A1 (by omega) (s4 i (by omega)) (by omega) (fun h3 F3 A3 M3 => ?_))
      obtain ⟨gs3, o3⟩ := A3.cell (fun c z => z.o)
      have N3 := M1.tr M3
      refine yK_v rfl ?_
      refine ys_f 20 r_161_19 rfl ?_
      refine ys_f 23 (lv2 := [(2, _), (0, _), (1, _)]) r_161_20 rfl ?_
      refine ys_f 2 r_161_23 rfl ?_
      exact yP_lv [(2, .int (nI (i + 1))), (0, .ref b), (1, .ref t)] rfl ⟨(by rw [nI_succ]; rfl), rfl, rfl, trivial⟩ (ih (i + 1) _ _ (by omega) (by omega) A3 N3)

theorem la_161  {t n : Nat} {L : List Int32} (hs : StA t n L) (hB : B ≤ 800) (A : AtC h b F (Ca B G H Sv ch sv ea fa 0 Bu)) (k : ∀ h2 F2, AtC h2 b F2 (Ca (B + n) G H Sv ch sv ea fa n (putB Bu L n)) → MvC h h2 F F2 0 0 → Q (.inl none) h2) : yP S (d + 8) 161 0 [(0, .ref b), (1, .ref t)] [] h Q := by
  refine ys_f 1 r_161_0 rfl ?_
  refine ys_f 2 (lv2 := [(2, _), (0, _), (1, _)]) r_161_1 rfl ?_
  exact yP_lv [(2, .int (nI 0)), (0, .ref b), (1, .ref t)] rfl ⟨rfl, rfl, rfl, trivial⟩ (lp_161 hs hB k (n + 2) 0 h F (by omega) (by omega) A (MvC.rf A))

theorem la_163_0  (A : AtC h b F (Ca B G H Sv ch sv ea fa tn Bu)) (hB : B ≤ 900) {a9 : Int32} (k5 : joinF (npG G) = 5 → ∀ h2 F2, AtC h2 b F2 (Ca B G H Sv ch sv ea fa tn Bu) → MvC h h2 F F2 1 6 → Q (.inl (some (.int (-1001)))) h2) (kS : joinF (npG G) = 0 → ∀ h2 F2, AtC h2 b F2 (Ca (B + 1) (xw (xw G (10 + npG G) 100) 0 (nI (npG G + 1))) (psh ch H G) Sv (min (ch + 1) 8) sv ea fa tn Bu) → MvC h h2 F F2 1 6 → Q (.inl (some (.int (nI (npG G))))) h2) : yP S (d + 8) 163 0 [(0, .ref b), (1, .int 0), (2, .int a9)] [] h Q := by
  obtain ⟨gs, o0⟩ := A.cell (fun c z => z.o)
  refine ys_f 1 r_163_0 rfl ?_
  refine ys_f 32 r_163_1 rfl ?_
  refine ys_f 33 r_163_32 rfl ?_
  refine ys_call (lv2 := [(0, _)]) r_163_33 rfl rfl (by decide) (xcan_0 rfl rfl (by first | assumption) (by rfl)) rfl (qa_84 A hB (fun z1 h1 F1 A1 M1 => ?_) (fun z1 h1 F1 A1 M1 => ?_))
  · have kk := k5 z1 h1 F1 A1 M1
    refine yK_c (lv2 := [(0, _), (1, _), (2, _)]) rfl rfl rfl rfl ?_
    refine ys_f 64 r_163_61 rfl ?_
    refine ys_ret r_163_64 rfl ?_
    exact kk
  · have kk := kS z1 h1 F1 A1 M1
    refine yK_v rfl ?_
    refine ys_ret r_163_36 rfl ?_
    exact kk

theorem la_163_1  (A : AtC h b F (Ca B G H Sv ch sv ea fa tn Bu)) (hB : B ≤ 900) {w : Int32} (k3 : askF (noG G) w = 3 → ∀ h2 F2, AtC h2 b F2 (Ca B G H Sv ch sv ea fa tn Bu) → MvC h h2 F F2 1 6 → Q (.inl (some (.int (-1002)))) h2) (k5 : askF (noG G) w = 5 → ∀ h2 F2, AtC h2 b F2 (Ca B G H Sv ch sv ea fa tn Bu) → MvC h h2 F F2 1 6 → Q (.inl (some (.int (-1001)))) h2) (kS : askF (noG G) w = 0 → ∀ h2 F2, AtC h2 b F2 (Ca (B + 1) (gAsk G (noG G) w) (psh ch H G) Sv (min (ch + 1) 8) sv ea fa tn Bu) → MvC h h2 F F2 1 6 → Q (.inl (some (.int (G 2)))) h2) : yP S (d + 8) 163 0 [(0, .ref b), (1, .int 1), (2, .int w)] [] h Q := by
  obtain ⟨gs, o0⟩ := A.cell (fun c z => z.o)
  refine ys_f 1 r_163_0 rfl ?_
  refine ys_f 37 r_163_1 rfl ?_
  refine ys_f 38 r_163_37 rfl ?_
  refine ys_f 39 r_163_38 rfl ?_
  refine ys_call (lv2 := [(0, _), (1, _)]) r_163_39 rfl rfl (by decide) (xcan_0 rfl rfl (by first | assumption) (by rfl)) rfl (qa_85 A hB (fun z1 h1 F1 A1 M1 => ?_) (fun z1 h1 F1 A1 M1 => ?_) (fun z1 h1 F1 A1 M1 => ?_))
  · have kk := k3 z1 h1 F1 A1 M1
    refine yK_c (lv2 := [(0, _), (1, _), (2, _)]) rfl rfl rfl rfl ?_
    refine ys_f 69 r_163_66 rfl ?_
    refine ys_ret r_163_69 rfl ?_
    exact kk
  · have kk := k5 z1 h1 F1 A1 M1
    refine yK_c (lv2 := [(0, _), (1, _), (2, _)]) rfl rfl rfl rfl ?_
    refine ys_f 64 r_163_61 rfl ?_
    refine ys_ret r_163_64 rfl ?_
    exact kk
  · have kk := kS z1 h1 F1 A1 M1
    refine yK_v rfl ?_
    refine ys_ret r_163_42 rfl ?_
    exact kk

theorem la_163_2  (A : AtC h b F (Ca B G H Sv ch sv ea fa tn Bu)) (hB : B ≤ 900) {t : Int32} (k3 : settF (noG G) t = 3 → ∀ h2 F2, AtC h2 b F2 (Ca B G H Sv ch sv ea fa tn Bu) → MvC h h2 F F2 1 6 → Q (.inl (some (.int (-1002)))) h2) (k2 : settF (noG G) t = 2 → ∀ h2 F2, AtC h2 b F2 (Ca B G H Sv ch sv ea fa tn Bu) → MvC h h2 F F2 1 6 → Q (.inl (some (.int (-1002)))) h2) (kS : settF (noG G) t = 0 → ∀ h2 F2, AtC h2 b F2 (Ca (B + 1) (gSet G (noG G) (mnG G 0) (scG G) t) (psh ch H G) Sv (min (ch + 1) 8) sv ea fa tn Bu) → MvC h h2 F F2 1 6 → Q (.inl (some (.int (nI (hitN (gQ G (mnG G) 0).2.2.2 t (gQ G (mnG G) 0).2.2.1))))) h2) : yP S (d + 8) 163 0 [(0, .ref b), (1, .int 2), (2, .int t)] [] h Q := by
  obtain ⟨gs, o0⟩ := A.cell (fun c z => z.o)
  refine ys_f 1 r_163_0 rfl ?_
  refine ys_f 43 r_163_1 rfl ?_
  refine ys_f 44 r_163_43 rfl ?_
  refine ys_f 45 r_163_44 rfl ?_
  refine ys_call (lv2 := [(0, _), (1, _)]) r_163_45 rfl rfl (by decide) (xcan_0 rfl rfl (by first | assumption) (by rfl)) rfl (qa_87 A hB (fun z1 h1 F1 A1 M1 => ?_) (fun z1 h1 F1 A1 M1 => ?_) (fun z1 h1 F1 A1 M1 => ?_))
  · have kk := k3 z1 h1 F1 A1 M1
    refine yK_c (lv2 := [(0, _), (1, _), (2, _)]) rfl rfl rfl rfl ?_
    refine ys_f 69 r_163_66 rfl ?_
    refine ys_ret r_163_69 rfl ?_
    exact kk
  · have kk := k2 z1 h1 F1 A1 M1
    refine yK_c (lv2 := [(0, _), (1, _), (2, _)]) rfl rfl rfl rfl ?_
    refine ys_f 79 r_163_76 rfl ?_
    refine ys_ret r_163_79 rfl ?_
    exact kk
  · have kk := kS z1 h1 F1 A1 M1
    refine yK_v rfl ?_
    refine ys_ret r_163_48 rfl ?_
    exact kk

theorem la_163_3  (A : AtC h b F (Ca B G H Sv ch sv ea fa tn Bu)) (hB : B ≤ 900) {a9 : Int32} (k2 : postF (noG G) = 2 → ∀ h2 F2, AtC h2 b F2 (Ca B G H Sv ch sv ea fa tn Bu) → MvC h h2 F F2 1 6 → Q (.inl (some (.int (-1002)))) h2) (kS : postF (noG G) = 0 → ∀ h2 F2, AtC h2 b F2 (Ca (B + 1) (gPst G (noG G)) (psh ch H G) Sv (min (ch + 1) 8) sv ea fa tn Bu) → MvC h h2 F F2 1 6 → Q (.inl (some (.int ((rot (gQ G (mnG G)) 0 (noG G - 1) 0).1)))) h2) : yP S (d + 8) 163 0 [(0, .ref b), (1, .int 3), (2, .int a9)] [] h Q := by
  obtain ⟨gs, o0⟩ := A.cell (fun c z => z.o)
  refine ys_f 1 r_163_0 rfl ?_
  refine ys_f 49 r_163_1 rfl ?_
  refine ys_f 50 r_163_49 rfl ?_
  refine ys_call (lv2 := [(0, _)]) r_163_50 rfl rfl (by decide) (xcan_0 rfl rfl (by first | assumption) (by rfl)) rfl (qa_88 A hB (fun z1 h1 F1 A1 M1 => ?_) (fun z1 h1 F1 A1 M1 => ?_))
  · have kk := k2 z1 h1 F1 A1 M1
    refine yK_c (lv2 := [(0, _), (1, _), (2, _)]) rfl rfl rfl rfl ?_
    refine ys_f 79 r_163_76 rfl ?_
    refine ys_ret r_163_79 rfl ?_
    exact kk
  · have kk := kS z1 h1 F1 A1 M1
    refine yK_v rfl ?_
    refine ys_ret r_163_53 rfl ?_
    exact kk

theorem la_163_4  (A : AtC h b F (Ca B G H Sv ch sv ea fa tn Bu)) (hB : B ≤ 900) {p : Int32} (k1 : leavF (npG G) (gP G) p = 1 → ∀ h2 F2, AtC h2 b F2 (Ca B G H Sv ch sv ea fa tn Bu) → MvC h h2 F F2 1 6 → Q (.inl (some (.int (-1002)))) h2) (k5 : leavF (npG G) (gP G) p = 5 → ∀ h2 F2, AtC h2 b F2 (Ca B G H Sv ch sv ea fa tn Bu) → MvC h h2 F F2 1 6 → Q (.inl (some (.int (-1001)))) h2) (kS : leavF (npG G) (gP G) p = 0 → ∀ h2 F2, AtC h2 b F2 (Ca (B + 1) (xw (wdN G p.toNatClampNeg (mnG G) (noG G)) (15 + p.toNatClampNeg) 1) (psh ch H G) Sv (min (ch + 1) 8) sv ea fa tn Bu) → MvC h h2 F F2 1 6 → Q (.inl (some (.int (nI (cntB (fun j => hasQ p (gQ G (mnG G) j)) (noG G)))))) h2) : yP S (d + 8) 163 0 [(0, .ref b), (1, .int 4), (2, .int p)] [] h Q := by
  obtain ⟨gs, o0⟩ := A.cell (fun c z => z.o)
  refine ys_f 1 r_163_0 rfl ?_
  refine ys_f 54 r_163_1 rfl ?_
  refine ys_f 55 r_163_54 rfl ?_
  refine ys_f 56 r_163_55 rfl ?_
  refine ys_call (lv2 := [(0, _), (1, _)]) r_163_56 rfl rfl (by decide) (xcan_0 rfl rfl (by first | assumption) (by rfl)) rfl (qa_89 A hB (fun z1 h1 F1 A1 M1 => ?_) (fun z1 h1 F1 A1 M1 => ?_) (fun z1 h1 F1 A1 M1 => ?_))
  · have kk := k1 z1 h1 F1 A1 M1
    refine yK_c (lv2 := [(0, _), (1, _), (2, _)]) rfl rfl rfl rfl ?_
    refine ys_f 74 r_163_71 rfl ?_
    refine ys_ret r_163_74 rfl ?_
    exact kk
  · have kk := k5 z1 h1 F1 A1 M1
    refine yK_c (lv2 := [(0, _), (1, _), (2, _)]) rfl rfl rfl rfl ?_
    refine ys_f 64 r_163_61 rfl ?_
    refine ys_ret r_163_64 rfl ?_
    exact kk
  · have kk := kS z1 h1 F1 A1 M1
    refine yK_v rfl ?_
    refine ys_ret r_163_59 rfl ?_
    exact kk

theorem la_164  (A : AtC h b F (Ca B G H Sv ch sv ea fa tn Bu)) (hB : B ≤ 900) {p n lo hi2 c sk : Int32} (k1 : betF (npG G) (noG G) (gP G) (gQ G (mnG G)) p n lo hi2 c sk = 1 → ∀ h2 F2, AtC h2 b F2 (Ca B G H Sv ch sv ea fa tn Bu) → MvC h h2 F F2 1 6 → Q (.inl (some (.int (-1)))) h2) (k2 : betF (npG G) (noG G) (gP G) (gQ G (mnG G)) p n lo hi2 c sk = 2 → ∀ h2 F2, AtC h2 b F2 (Ca B G H Sv ch sv ea fa tn Bu) → MvC h h2 F F2 1 6 → Q (.inl (some (.int (-2)))) h2) (k3 : betF (npG G) (noG G) (gP G) (gQ G (mnG G)) p n lo hi2 c sk = 3 → ∀ h2 F2, AtC h2 b F2 (Ca B G H Sv ch sv ea fa tn Bu) → MvC h h2 F F2 1 6 → Q (.inl (some (.int (-3)))) h2) (k4 : betF (npG G) (noG G) (gP G) (gQ G (mnG G)) p n lo hi2 c sk = 4 → ∀ h2 F2, AtC h2 b F2 (Ca B G H Sv ch sv ea fa tn Bu) → MvC h h2 F F2 1 6 → Q (.inl (some (.int (-4)))) h2) (k5 : betF (npG G) (noG G) (gP G) (gQ G (mnG G)) p n lo hi2 c sk = 5 → ∀ h2 F2, AtC h2 b F2 (Ca B G H Sv ch sv ea fa tn Bu) → MvC h h2 F F2 1 6 → Q (.inl (some (.int (-5)))) h2) (kS : betF (npG G) (noG G) (gP G) (gQ G (mnG G)) p n lo hi2 c sk = 0 → ∀ h2 F2, AtC h2 b F2 (Ca (B + 1) (gBet G p.toNatClampNeg (pla (gQ G (mnG G)) (noG G) n) (mnG G (pla (gQ G (mnG G)) (noG G) n)) lo hi2 c sk) (psh ch H G) Sv (min (ch + 1) 8) sv ea fa tn Bu) → MvC h h2 F F2 1 6 → Q (.inl (some (.int ((gP G p.toNatClampNeg).1 - sk)))) h2) : yP S (d + 8) 164 0 [(0, .ref b), (1, .int p), (2, .int n), (3, .int lo), (4, .int hi2), (5, .int c), (6, .int sk)] [] h Q := by
  obtain ⟨gs, o0⟩ := A.cell (fun c z => z.o)
  refine ys_f 1 r_164_0 rfl ?_
  refine ys_f 2 r_164_1 rfl ?_
  refine ys_f 3 r_164_2 rfl ?_
  refine ys_f 4 r_164_3 rfl ?_
  refine ys_f 6 r_164_4 rfl ?_
  refine ys_f 8 r_164_6 rfl ?_
  refine ys_f 10 r_164_8 rfl ?_
  refine ys_call (lv2 := [(0, _), (1, _), (2, _), (3, _), (4, _), (5, _), (6, _)]) r_164_10 rfl rfl (by decide) (xcan_0 rfl rfl (by first | assumption) (by rfl)) rfl (qa_86 A hB (fun z1 h1 F1 A1 M1 => ?_) (fun z1 h1 F1 A1 M1 => ?_) (fun z1 h1 F1 A1 M1 => ?_) (fun z1 h1 F1 A1 M1 => ?_) (fun z1 h1 F1 A1 M1 => ?_) (fun z1 h1 F1 A1 M1 => ?_))
  · have kk := k1 z1 h1 F1 A1 M1
    refine yK_c (lv2 := [(0, _), (1, _), (2, _), (3, _), (4, _), (5, _), (6, _)]) rfl rfl rfl rfl ?_
    refine ys_f 17 r_164_16 rfl ?_
    refine ys_ret r_164_17 rfl ?_
    exact kk
  · have kk := k2 z1 h1 F1 A1 M1
    refine yK_c (lv2 := [(0, _), (1, _), (2, _), (3, _), (4, _), (5, _), (6, _)]) rfl rfl rfl rfl ?_
    refine ys_f 22 r_164_20 rfl ?_
    refine ys_ret r_164_22 rfl ?_
    exact kk
  · have kk := k3 z1 h1 F1 A1 M1
    refine yK_c (lv2 := [(0, _), (1, _), (2, _), (3, _), (4, _), (5, _), (6, _)]) rfl rfl rfl rfl ?_
    refine ys_f 27 r_164_25 rfl ?_
    refine ys_ret r_164_27 rfl ?_
    exact kk
  · have kk := k4 z1 h1 F1 A1 M1
    refine yK_c (lv2 := [(0, _), (1, _), (2, _), (3, _), (4, _), (5, _), (6, _)]) rfl rfl rfl rfl ?_
    refine ys_f 32 r_164_30 rfl ?_
    refine ys_ret r_164_32 rfl ?_
    exact kk
  · have kk := k5 z1 h1 F1 A1 M1
    refine yK_c (lv2 := [(0, _), (1, _), (2, _), (3, _), (4, _), (5, _), (6, _)]) rfl rfl rfl rfl ?_
    refine ys_f 37 r_164_35 rfl ?_
    refine ys_ret r_164_37 rfl ?_
    exact kk
  · have kk := kS z1 h1 F1 A1 M1
    refine yK_v rfl ?_
    refine ys_ret r_164_13 rfl ?_
    exact kk

theorem la_168A  (A : AtC h b F (Ca B G H Sv ch sv ea fa tn Bu)) (hB : B ≤ 900) {p : Nat} (hR : ∀ c nu, (ctC Bu tn 60 1 0 c nu).1 = none ∧ (ctC Bu tn 60 1 0 c nu).2.1 = p) (k : ∀ h2 F2, AtC h2 b F2 (Ca B G H Sv ch sv (nI p) fa 0 Bu) → MvC h h2 F F2 1 6 → Q (.inl (some (.int (-1)))) h2) : yP S (d + 8) 168 0 [(0, .ref b)] [] h Q := by
  obtain ⟨gs, o0⟩ := A.cell (fun c z => z.o)
  refine ys_f 1 r_168_0 rfl ?_
  refine ys_call (lv2 := [(0, _)]) r_168_1 rfl rfl (by decide) (xcan_0 rfl rfl (by first | assumption) (by rfl)) rfl (qa_126A A hB hR (fun h1 F1 A1 M1 => ?_))
  have kk := k h1 F1 A1 M1
  refine yK_c (lv2 := [(0, _)]) rfl rfl rfl rfl ?_
  refine ys_f 7 r_168_6 rfl ?_
  refine ys_ret r_168_7 rfl ?_
  exact kk

theorem la_168B  (A : AtC h b F (Ca B G H Sv ch sv ea fa tn Bu)) (hB : B ≤ 900) {v i : Nat} (hR : ∀ c nu, (ctC Bu tn 60 1 0 c nu).1 = some v ∧ (exC Bu tn v 0 0 (ctC Bu tn 60 1 0 c nu).2.2.1 (ctC Bu tn 60 1 0 c nu).2.2.2 G).1 = some i) (k : ∀ h2 F2, AtC h2 b F2 (Ca (B + v) G H Sv ch sv ea (nI i) 0 Bu) → MvC h h2 F F2 1 6 → Q (.inl (some (.int (-2)))) h2) : yP S (d + 8) 168 0 [(0, .ref b)] [] h Q := by
  obtain ⟨gs, o0⟩ := A.cell (fun c z => z.o)
  refine ys_f 1 r_168_0 rfl ?_
  refine ys_call (lv2 := [(0, _)]) r_168_1 rfl rfl (by decide) (xcan_0 rfl rfl (by first | assumption) (by rfl)) rfl (qa_126B A hB hR (fun h1 F1 A1 M1 => ?_))
  have kk := k h1 F1 A1 M1
  refine yK_c (lv2 := [(0, _)]) rfl rfl rfl rfl ?_
  refine ys_f 11 r_168_9 rfl ?_
  refine ys_ret r_168_11 rfl ?_
  exact kk

theorem la_169  {t n p : Nat} {L : List Int32} (hs : StA t n L) (hB : B ≤ 800) (hp : p ≤ 1000) (hR : ∀ Bu c nu, (ctC (putB Bu L n) n 60 1 0 c nu).1 = none ∧ (ctC (putB Bu L n) n 60 1 0 c nu).2.1 = p) (A : AtC h b F (Ca B G H Sv ch sv ea fa 0 Bu)) (k : ∀ h2 F2 Bu2, AtC h2 b F2 (Ca (B + n) G H Sv ch sv (nI p) fa 0 Bu2) → MvC h h2 F F2 1 6 → Q (.inl (some (.int (nI 1)))) h2) : yP S (d + 9) 169 0 [(0, .ref b), (1, .ref t), (2, .int (nI p))] [] h Q := by
  obtain ⟨gs, o0⟩ := A.cell (fun c z => z.o)
  obtain ⟨s0, s1, s2, s3, s4⟩ := id hs
  refine ys_f 1 r_169_0 rfl ?_
  refine ys_f 2 r_169_1 rfl ?_
  refine ys_call (lv2 := [(0, _), (1, _)]) r_169_2 rfl rfl (by decide) (xcan_1 rfl) rfl (la_161 hs hB A (fun h1 F1 A1 M1 => ?_))
  obtain ⟨gs1, o1⟩ := A1.cell (fun c z => z.o)
  have N1 := M1
  refine yK_0 rfl ?_
  refine ys_f 6 r_169_5 rfl ?_
  refine ys_call (lv2 := [(0, _)]) r_169_6 rfl rfl (by decide) (xcan_3 rfl rfl) rfl (la_168A A1 (by omega) (hR Bu) (fun h2 F2 A2 M2 => ?_))
  obtain ⟨gs2, o2⟩ := A2.cell (fun c z => z.o)
  have N2 := N1.tr M2
  refine yK_v rfl ?_
  refine ys_f 10 r_169_9 rfl ?_
  refine ys_f 13 r_169_10 rfl ?_
  refine ys_f 14 r_169_13 rfl ?_
  refine ys_call (lv2 := [(0, _)]) r_169_14 rfl rfl (by decide) (xcan_0 rfl rfl (by first | assumption) (by rfl)) rfl (qa_127 A2 (nI_m1 rfl (by omega)) (fun h3 F3 A3 M3 => ?_))
  obtain ⟨gs3, o3⟩ := A3.cell (fun c z => z.o)
  have N3 := N2.tr M3
  refine yK_v rfl ?_
  refine ys_f 18 r_169_17 rfl ?_
  refine ys_if 21 25 r_169_18 rfl (fun hc2 => ?_) (fun hc2 => ?_)
  · have hc2 := (nI_eqN rfl rfl (by omega) (by omega)).mp hc2
    refine ys_f 22 r_169_21 rfl ?_
    refine ys_f 26 r_169_22 rfl ?_
    refine ys_ret r_169_26 rfl ?_
    exact k _ _ _ A3 N3
  · have hc2 := mt (nI_eqN rfl rfl (by omega) (by omega)).mpr hc2
    refine ys_f 26 r_169_25 rfl ?_
    refine ys_ret r_169_26 rfl ?_
    exact absurd rfl hc2

end CC
