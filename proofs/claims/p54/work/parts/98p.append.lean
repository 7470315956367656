/-! texts appended -/
def psT (s : XL) (D : List Int32) : XL := D.foldl psL s
theorem psT_1 : ∀ {D : List Int32} {s : XL}, (psT s D).1 = s.1 + D.length
  | [], s => rfl
  | x :: D, s => by
    show (psT (psL s x) D).1 = _
    rw [psT_1]
    show s.1 + 1 + D.length = s.1 + (D.length + 1)
    omega
theorem psT_2 : ∀ {D : List Int32} {s : XL} {j : Nat}, (psT s D).2 j = if s.1 ≤ j ∧ j < s.1 + D.length then D.getD (j - s.1) 0 else s.2 j
  | [], s, j => by
    rw [if_neg (by have e0 : ([] : List Int32).length = 0 := rfl; omega)]
    rfl
  | x :: D, s, j => by
    show (psT (psL s x) D).2 j = _
    rw [psT_2]
    have e1 : (psL s x).1 = s.1 + 1 := rfl
    have e2 : (psL s x).2 j = if j = s.1 then x else s.2 j := rfl
    rw [e1, e2]
    have e3 : (x :: D).length = D.length + 1 := rfl
    rw [e3]
    by_cases h1 : j = s.1
    · rw [if_neg (by omega), if_pos h1, if_pos (by omega), h1, Nat.sub_self]
      rfl
    · rw [if_neg h1]
      by_cases h2 : s.1 + 1 ≤ j ∧ j < s.1 + 1 + D.length
      · rw [if_pos h2, if_pos (by omega), show j - s.1 = (j - (s.1 + 1)) + 1 by omega]
        rfl
      · rw [if_neg h2, if_neg (by omega)]
/-- letters copied out of a constant -/
theorem ys_cpyC {S : XSc} {d mid pc : Nat} {lv : XLv} {st : List Value} {h : XH} {Q : XO → XH → Prop} {e : XI} (pc2 : Nat) {a b dp m n1 : Nat} {D : List Int32} {w : Nat → Int32} {z1 z2 z3 : Int32} (hr : xT.1 mid pc = some e) (hp : pc + 3 = pc2) (hc : xcall e (.int z3 :: .int z2 :: .ref b :: .int z1 :: .ref a :: st) = some (4, ([.ref a, .int z1, .ref b, .int z2, .int z3], st))) (he : e.2.1.1 = 0) (l : h.1 a = none) (hD : yCb a = some D) (hm : D.length = m) (e1 : z1 = nI 0) (e2 : z2 = nI dp) (e3 : z3 = nI m) (hb : IA h.1 4 b n1 w) (hn : dp + m ≤ n1) (hn1 : n1 ≤ 65536) (hf : ∀ i, i < m → fits .byte (.int (D.getD i 0)) = true) (k : ∀ f, IA f 4 b n1 (fun j => if dp ≤ j ∧ j < dp + m then D.getD (j - dp) 0 else w j) → Fr h.1 f b (b + 1) → yP S d mid pc2 lv st (f, h.2) Q) : yP S d mid pc lv (.int z3 :: .int z2 :: .ref b :: .int z1 :: .ref a :: st) h Q := by
  subst e1; subst e2; subst e3
  obtain ⟨G, g3, g4⟩ := hb
  have hX : yX e.2.1.1 [.ref a, .int (nI 0), .ref b, .int (nI dp), .int (nI m)] h = some (none, (xup h.1 b (.inl (4, (n1, .inl (va_cpy (fun k => D.getD k 0) G 0 dp m)))), h.2)) := by
    rw [he]
    show yXcopy [.ref a, .int (nI 0), .ref b, .int (nI dp), .int (nI m)] h = _
    unfold yXcopy
    have q0 : xXcopy [.ref a, .int (nI 0), .ref b, .int (nI dp), .int (nI m)] h = none := by
      unfold xXcopy
      simp only [l]
    rw [q0]
    show yXcpc [.ref a, .int (nI 0), .ref b, .int (nI dp), .int (nI m)] h = _
    unfold yXcpc
    simp only [hD, g3]
    rw [show (nI 0).toNatClampNeg = 0 from nI_clamp (by omega), show (nI m).toNatClampNeg = m from nI_clamp (by omega), show (nI dp).toNatClampNeg = dp from nI_clamp (by omega)]
    rw [if_pos ⟨trivial, ⟨nI_pos (by omega), nI_pos (by omega), nI_pos (by omega)⟩, ⟨by omega, by omega⟩, fun i hi => by rw [Nat.zero_add]; exact hf i hi⟩]
  refine ys_ext pc2 hr hp hc hX rfl (k _ ⟨_, xup_s, fun j hj => ?_⟩ (Fr.up (Nat.le_refl _) (Nat.lt_succ_self _)))
  show va_cpy (fun k => D.getD k 0) G 0 dp m j = (if dp ≤ j ∧ j < dp + m then D.getD (j - dp) 0 else w j)
  by_cases z : dp ≤ j ∧ j < dp + m
  · rw [pk_cpy_in z.1 (by omega), Nat.zero_add, if_pos z]
  · rw [if_neg z, show va_cpy (fun k => D.getD k 0) G 0 dp m j = G j from if_neg (by omega)]
    exact g4 j hj
section PP
variable {S : XSc} {d : Nat} {h : XH} {Q : XO → XH → Prop} {sb B0 n : Nat} {L : Nat → Int32}
theorem Yw.lo {h2 : XH} {x y : Nat} (w : Yw sb B0 h h2 x y) (l : Lo h) (h72 : 72 ≤ sb) (hB : sb ≤ B0) : Lo h2 := fun a ha => (w.1 a (by omega) (by omega) (by omega)).trans (l a ha)
theorem la_317_21  (l : Lo h) (hX : YbX sb B0 h n L) (hn9 : n + 7 ≤ 100) (k9 : ∀ h2, YbX sb B0 h2 (psT (n, L) (xfB 21)).1 (psT (n, L) (xfB 21)).2 → Yw sb B0 h h2 1 220 → Q (.inl (some (.ref sb))) h2) : yP S (d + 5) 317 0 [(0, .ref sb), (1, .ref 47)] [] h Q := by
  obtain ⟨cap, v, Bt, k, hC⟩ := id hX
  obtain ⟨⟨mb, o0⟩, r0, hL, hB, ⟨hn, h16, h220⟩, ⟨hv8, hvB, hvk⟩, hk, hBk, hB9⟩ := id hC
  refine ys_f 1 r_317_0 rfl ?_
  refine ys_f 2 r_317_1 rfl ?_
  refine ys_call (lv2 := [(0, _), (1, _)]) r_317_2 rfl rfl (by decide) (ycan_3b hX rfl rfl rfl rfl) rfl ?_
  refine ys_f 1 r_319_0 rfl ?_
  refine ys_f 9 r_319_1 rfl ?_
  refine ys_f 10 r_319_9 rfl ?_
  refine ys_call (lv2 := [(0, _)]) r_319_10 rfl rfl (by decide) (xcan_str rfl rfl rfl) rfl (yP_up (show d + 1 ≤ d + 3 by omega) (s_312_21 ?_))
  refine yK_v rfl ?_
  refine ys_f 14 (lv2 := [(2, _), (0, _), (1, _)]) r_319_13 rfl ?_
  refine ys_f 15 r_319_14 rfl ?_
  refine ys_f 16 r_319_15 rfl ?_
  refine ys_get 19 r_319_16 rfl rfl (by first | assumption | exact xup_s | exact o0 | exact o1 | (refine (xup_n (by omega)).trans ?_; first | assumption | exact xup_s | exact o0 | exact o1) | (refine (xup_n (by omega)).trans ((xup_n (by omega)).trans ?_); first | assumption | exact xup_s | exact o0 | exact o1) | (refine (xup_n (by omega)).trans ((xup_n (by omega)).trans ((xup_n (by omega)).trans ?_)); first | assumption | exact xup_s | exact o0 | exact o1)) (by rfl) ?_
  refine ys_f 20 r_319_19 rfl ?_
  refine ys_f 21 r_319_20 rfl ?_
  refine ys_call (lv2 := [(0, _), (1, _)]) r_319_21 rfl rfl (by decide) (xcan_0 rfl rfl (by first | assumption | exact xup_s | exact o0 | exact o1 | (refine (xup_n (by omega)).trans ?_; first | assumption | exact xup_s | exact o0 | exact o1) | (refine (xup_n (by omega)).trans ((xup_n (by omega)).trans ?_); first | assumption | exact xup_s | exact o0 | exact o1) | (refine (xup_n (by omega)).trans ((xup_n (by omega)).trans ((xup_n (by omega)).trans ?_)); first | assumption | exact xup_s | exact o0 | exact o1)) (by rfl)) rfl (yP_lv [(0, .ref sb), (1, .int (nI (n + 7)))] rfl ⟨rfl, (congrArg (fun z => some (Value.int z)) (nI_addE rfl rfl)), trivial⟩ (yP_up (show d + 2 ≤ d + 3 by omega) (ey_300 hC (mn := n + 7) (by omega) (by omega) (fun h1 cap1 v1 Bt1 k1 hm1 hC1 w1 => ?_))))
  obtain ⟨⟨mb1, o1⟩, r1, hL1, hB1, ⟨hn1, h161, h221⟩, ⟨hv81, hvB1, hvk1⟩, hk1, hBk1, hB91⟩ := id hC1
  refine yK_0 rfl ?_
  refine ys_f 25 r_319_24 rfl ?_
  refine ys_f 26 r_319_25 rfl ?_
  refine ys_get 29 r_319_26 rfl rfl (by first | assumption | exact xup_s | exact o0 | exact o1 | (refine (xup_n (by omega)).trans ?_; first | assumption | exact xup_s | exact o0 | exact o1) | (refine (xup_n (by omega)).trans ((xup_n (by omega)).trans ?_); first | assumption | exact xup_s | exact o0 | exact o1) | (refine (xup_n (by omega)).trans ((xup_n (by omega)).trans ((xup_n (by omega)).trans ?_)); first | assumption | exact xup_s | exact o0 | exact o1)) (by rfl) ?_
  refine ys_f 30 r_319_29 rfl ?_
  refine ys_call (lv2 := [(0, _), (1, _), (2, _)]) r_319_30 rfl rfl (by decide) (xcan_0 rfl rfl (by first | assumption | exact xup_s | exact o0 | exact o1 | (refine (xup_n (by omega)).trans ?_; first | assumption | exact xup_s | exact o0 | exact o1) | (refine (xup_n (by omega)).trans ((xup_n (by omega)).trans ?_); first | assumption | exact xup_s | exact o0 | exact o1) | (refine (xup_n (by omega)).trans ((xup_n (by omega)).trans ((xup_n (by omega)).trans ?_)); first | assumption | exact xup_s | exact o0 | exact o1)) (by rfl)) rfl ?_
  refine ys_f 1 r_320_0 rfl ?_
  refine ys_f 2 r_320_1 rfl ?_
  refine ys_call (lv2 := [(0, _), (1, _)]) r_320_2 rfl rfl (by decide) (xcan_0 rfl rfl (by first | assumption | exact xup_s | exact o0 | exact o1 | (refine (xup_n (by omega)).trans ?_; first | assumption | exact xup_s | exact o0 | exact o1) | (refine (xup_n (by omega)).trans ((xup_n (by omega)).trans ?_); first | assumption | exact xup_s | exact o0 | exact o1) | (refine (xup_n (by omega)).trans ((xup_n (by omega)).trans ((xup_n (by omega)).trans ?_)); first | assumption | exact xup_s | exact o0 | exact o1)) (by rfl)) rfl ?_
  refine ys_gst 3 r_321_0 rfl ?_
  refine ys_f 6 r_321_3 rfl ?_
  refine ys_f 7 r_321_6 rfl ?_
  refine ys_get 10 r_321_7 rfl rfl (by first | assumption | exact xup_s | exact o0 | exact o1 | (refine (xup_n (by omega)).trans ?_; first | assumption | exact xup_s | exact o0 | exact o1) | (refine (xup_n (by omega)).trans ((xup_n (by omega)).trans ?_); first | assumption | exact xup_s | exact o0 | exact o1) | (refine (xup_n (by omega)).trans ((xup_n (by omega)).trans ((xup_n (by omega)).trans ?_)); first | assumption | exact xup_s | exact o0 | exact o1)) (by rfl) ?_
  refine ys_f 11 r_321_10 rfl ?_
  refine ys_call (lv2 := [(0, _)]) r_321_11 rfl rfl (by decide) (xcan_str rfl rfl rfl) rfl ?_
  refine ys_gst 3 r_314_0 rfl ?_
  refine ys_f 6 r_314_3 rfl ?_
  refine ys_f 7 r_314_6 rfl ?_
  refine ys_ext 10 r_314_7 rfl rfl rfl rfl ?_
  refine ys_f 14 r_314_10 rfl ?_
  refine ys_ret r_314_14 rfl ?_
  refine yK_v rfl ?_
  refine ys_f 21 r_321_14 rfl ?_
  refine ys_ret r_321_21 rfl ?_
  refine yK_0 rfl ?_
  refine ys_f 6 r_320_5 rfl ?_
  refine ys_f 7 r_320_6 rfl ?_
  refine ys_get 10 r_320_7 rfl rfl (by first | assumption | exact xup_s | exact o0 | exact o1 | (refine (xup_n (by omega)).trans ?_; first | assumption | exact xup_s | exact o0 | exact o1) | (refine (xup_n (by omega)).trans ((xup_n (by omega)).trans ?_); first | assumption | exact xup_s | exact o0 | exact o1) | (refine (xup_n (by omega)).trans ((xup_n (by omega)).trans ((xup_n (by omega)).trans ?_)); first | assumption | exact xup_s | exact o0 | exact o1)) (by rfl) ?_
  refine ys_f 11 r_320_10 rfl ?_
  refine ys_f 12 r_320_11 rfl ?_
  refine ys_get 15 r_320_12 rfl rfl (by first | assumption | exact xup_s | exact o0 | exact o1 | (refine (xup_n (by omega)).trans ?_; first | assumption | exact xup_s | exact o0 | exact o1) | (refine (xup_n (by omega)).trans ((xup_n (by omega)).trans ?_); first | assumption | exact xup_s | exact o0 | exact o1) | (refine (xup_n (by omega)).trans ((xup_n (by omega)).trans ((xup_n (by omega)).trans ?_)); first | assumption | exact xup_s | exact o0 | exact o1)) (by rfl) ?_
  refine ys_call (lv2 := [(0, _), (1, _), (2, _), (3, _)]) r_320_15 rfl rfl (by decide) (xcan_str rfl rfl rfl) rfl ?_
  refine ys_f 1 r_325_0 rfl ?_
  refine ys_call (lv2 := [(0, _)]) r_325_1 rfl rfl (by decide) (xcan_str rfl rfl rfl) rfl ?_
  refine ys_gst 3 r_314_0 rfl ?_
  refine ys_f 6 r_314_3 rfl ?_
  refine ys_f 7 r_314_6 rfl ?_
  refine ys_ext 10 r_314_7 rfl rfl rfl rfl ?_
  refine ys_f 14 r_314_10 rfl ?_
  refine ys_ret r_314_14 rfl ?_
  refine yK_v rfl ?_
  refine ys_f 5 r_325_4 rfl ?_
  refine ys_f 8 r_325_5 rfl ?_
  refine ys_f 9 r_325_8 rfl ?_
  refine ys_ext 12 r_325_9 rfl rfl rfl rfl ?_
  refine ys_f 13 r_325_12 rfl ?_
  refine ys_f 14 r_325_13 rfl ?_
  refine ys_f 15 r_325_14 rfl ?_
  refine ys_f 16 r_325_15 rfl ?_
  refine ys_f 17 r_325_16 rfl ?_
  refine ys_f 18 r_325_17 rfl ?_
  refine ys_ext 21 r_325_18 rfl rfl rfl rfl ?_
  refine ys_len 22 r_325_21 rfl (yarr_r rfl rfl) ?_
  refine ys_cpyC 25 r_325_22 rfl rfl rfl (by have l1 := w1.lo l hB9.2 (by omega); exact l1 _ (by decide)) (show yCb 67 = some (xfB 21) from rfl) (m := 7) rfl rfl (shl0 _) rfl r1 (by omega) (by omega) (by decide +kernel) (fun f2 x2 y2 => ?_)
  refine ys_f 43 r_325_25 rfl ?_
  refine ys_ret r_325_43 rfl ?_
  refine yK_0 rfl ?_
  refine ys_ret r_320_18 rfl ?_
  refine yK_0 rfl ?_
  refine ys_f 34 r_319_33 rfl ?_
  refine ys_f 35 r_319_34 rfl ?_
  refine ys_get 38 r_319_35 rfl rfl ((y2 sb (by omega)).trans o1) (by rfl) ?_
  refine ys_f 39 r_319_38 rfl ?_
  refine ys_f 40 r_319_39 rfl ?_
  refine ys_putC 43 r_319_40 rfl ((y2 sb (by omega)).trans o1) (by rfl) (by rfl) (fun f3 x3 y3 => ?_)
  refine ys_f 44 r_319_43 rfl ?_
  refine ys_ret r_319_44 rfl ?_
  refine yK_v rfl ?_
  refine ys_f 6 r_317_5 rfl ?_
  refine ys_f 7 r_317_6 rfl ?_
  refine ys_ret r_317_7 rfl ?_
  refine k9 (f3, h1.2) ⟨cap1, v1, _, k1, ⟨mb1, (x3.trans (by
    rw [psT_1]
    show (some (Sum.inr (10, [Value.ref v1, Value.int 0, Value.int mb1, Value.int (nI n + nI 7)])) : Option XE) = _
    rw [nI_add]
    rfl))⟩, x2.fr (y3 v1 (by omega)), fun i hi => ?_, fun i hi => ?_, ⟨?_, h161, h221⟩, ⟨hv81, hvB1, hvk1⟩, hk1, hBk1, hB91⟩ ⟨fun c c1 c2 c3 => (y3 c (by omega)).trans ((y2 c (by omega)).trans (w1.1 c c1 c2 c3)), w1.2.1, w1.2.2⟩
  · rw [psT_1] at hi
    have hi : i < n + 7 := hi
    rw [psT_2]
    by_cases z : n ≤ i ∧ i < n + 7
    · exact (if_pos z).trans (if_pos z).symm
    · exact (if_neg z).trans ((hL1 i (by omega)).trans (if_neg z).symm)
  · by_cases z : n ≤ i ∧ i < n + 7
    · obtain ⟨x, hx, e⟩ := (show ∀ q, q < 7 → ∃ x, x < 128 ∧ (xfB 21).getD q 0 = nI x from fun q hq => ⟨((xfB 21).getD q 0).toNatClampNeg, (show ∀ q, q < 7 → ((xfB 21).getD q 0).toNatClampNeg < 128 by decide +kernel) q hq, (show ∀ q, q < 7 → (xfB 21).getD q 0 = nI ((xfB 21).getD q 0).toNatClampNeg by decide +kernel) q hq⟩) (i - n) (by omega)
      exact ⟨x, hx, (if_pos z).trans e⟩
    · obtain ⟨x, hx, e⟩ := hB1 i hi
      exact ⟨x, hx, (if_neg z).trans e⟩
  · rw [psT_1]
    show n + 7 ≤ cap1
    omega

theorem la_317_22  (l : Lo h) (hX : YbX sb B0 h n L) (hn9 : n + 1 ≤ 100) (k9 : ∀ h2, YbX sb B0 h2 (psT (n, L) (xfB 22)).1 (psT (n, L) (xfB 22)).2 → Yw sb B0 h h2 1 220 → Q (.inl (some (.ref sb))) h2) : yP S (d + 5) 317 0 [(0, .ref sb), (1, .ref 48)] [] h Q := by
  obtain ⟨cap, v, Bt, k, hC⟩ := id hX
  obtain ⟨⟨mb, o0⟩, r0, hL, hB, ⟨hn, h16, h220⟩, ⟨hv8, hvB, hvk⟩, hk, hBk, hB9⟩ := id hC
  refine ys_f 1 r_317_0 rfl ?_
  refine ys_f 2 r_317_1 rfl ?_
  refine ys_call (lv2 := [(0, _), (1, _)]) r_317_2 rfl rfl (by decide) (ycan_3b hX rfl rfl rfl rfl) rfl ?_
  refine ys_f 1 r_319_0 rfl ?_
  refine ys_f 9 r_319_1 rfl ?_
  refine ys_f 10 r_319_9 rfl ?_
  refine ys_call (lv2 := [(0, _)]) r_319_10 rfl rfl (by decide) (xcan_str rfl rfl rfl) rfl (yP_up (show d + 1 ≤ d + 3 by omega) (s_312_22 ?_))
  refine yK_v rfl ?_
  refine ys_f 14 (lv2 := [(2, _), (0, _), (1, _)]) r_319_13 rfl ?_
  refine ys_f 15 r_319_14 rfl ?_
  refine ys_f 16 r_319_15 rfl ?_
  refine ys_get 19 r_319_16 rfl rfl (by first | assumption | exact xup_s | exact o0 | exact o1 | (refine (xup_n (by omega)).trans ?_; first | assumption | exact xup_s | exact o0 | exact o1) | (refine (xup_n (by omega)).trans ((xup_n (by omega)).trans ?_); first | assumption | exact xup_s | exact o0 | exact o1) | (refine (xup_n (by omega)).trans ((xup_n (by omega)).trans ((xup_n (by omega)).trans ?_)); first | assumption | exact xup_s | exact o0 | exact o1)) (by rfl) ?_
  refine ys_f 20 r_319_19 rfl ?_
  refine ys_f 21 r_319_20 rfl ?_
  refine ys_call (lv2 := [(0, _), (1, _)]) r_319_21 rfl rfl (by decide) (xcan_0 rfl rfl (by first | assumption | exact xup_s | exact o0 | exact o1 | (refine (xup_n (by omega)).trans ?_; first | assumption | exact xup_s | exact o0 | exact o1) | (refine (xup_n (by omega)).trans ((xup_n (by omega)).trans ?_); first | assumption | exact xup_s | exact o0 | exact o1) | (refine (xup_n (by omega)).trans ((xup_n (by omega)).trans ((xup_n (by omega)).trans ?_)); first | assumption | exact xup_s | exact o0 | exact o1)) (by rfl)) rfl (yP_lv [(0, .ref sb), (1, .int (nI (n + 1)))] rfl ⟨rfl, (congrArg (fun z => some (Value.int z)) (nI_addE rfl rfl)), trivial⟩ (yP_up (show d + 2 ≤ d + 3 by omega) (ey_300 hC (mn := n + 1) (by omega) (by omega) (fun h1 cap1 v1 Bt1 k1 hm1 hC1 w1 => ?_))))
  obtain ⟨⟨mb1, o1⟩, r1, hL1, hB1, ⟨hn1, h161, h221⟩, ⟨hv81, hvB1, hvk1⟩, hk1, hBk1, hB91⟩ := id hC1
  refine yK_0 rfl ?_
  refine ys_f 25 r_319_24 rfl ?_
  refine ys_f 26 r_319_25 rfl ?_
  refine ys_get 29 r_319_26 rfl rfl (by first | assumption | exact xup_s | exact o0 | exact o1 | (refine (xup_n (by omega)).trans ?_; first | assumption | exact xup_s | exact o0 | exact o1) | (refine (xup_n (by omega)).trans ((xup_n (by omega)).trans ?_); first | assumption | exact xup_s | exact o0 | exact o1) | (refine (xup_n (by omega)).trans ((xup_n (by omega)).trans ((xup_n (by omega)).trans ?_)); first | assumption | exact xup_s | exact o0 | exact o1)) (by rfl) ?_
  refine ys_f 30 r_319_29 rfl ?_
  refine ys_call (lv2 := [(0, _), (1, _), (2, _)]) r_319_30 rfl rfl (by decide) (xcan_0 rfl rfl (by first | assumption | exact xup_s | exact o0 | exact o1 | (refine (xup_n (by omega)).trans ?_; first | assumption | exact xup_s | exact o0 | exact o1) | (refine (xup_n (by omega)).trans ((xup_n (by omega)).trans ?_); first | assumption | exact xup_s | exact o0 | exact o1) | (refine (xup_n (by omega)).trans ((xup_n (by omega)).trans ((xup_n (by omega)).trans ?_)); first | assumption | exact xup_s | exact o0 | exact o1)) (by rfl)) rfl ?_
  refine ys_f 1 r_320_0 rfl ?_
  refine ys_f 2 r_320_1 rfl ?_
  refine ys_call (lv2 := [(0, _), (1, _)]) r_320_2 rfl rfl (by decide) (xcan_0 rfl rfl (by first | assumption | exact xup_s | exact o0 | exact o1 | (refine (xup_n (by omega)).trans ?_; first | assumption | exact xup_s | exact o0 | exact o1) | (refine (xup_n (by omega)).trans ((xup_n (by omega)).trans ?_); first | assumption | exact xup_s | exact o0 | exact o1) | (refine (xup_n (by omega)).trans ((xup_n (by omega)).trans ((xup_n (by omega)).trans ?_)); first | assumption | exact xup_s | exact o0 | exact o1)) (by rfl)) rfl ?_
  refine ys_gst 3 r_321_0 rfl ?_
  refine ys_f 6 r_321_3 rfl ?_
  refine ys_f 7 r_321_6 rfl ?_
  refine ys_get 10 r_321_7 rfl rfl (by first | assumption | exact xup_s | exact o0 | exact o1 | (refine (xup_n (by omega)).trans ?_; first | assumption | exact xup_s | exact o0 | exact o1) | (refine (xup_n (by omega)).trans ((xup_n (by omega)).trans ?_); first | assumption | exact xup_s | exact o0 | exact o1) | (refine (xup_n (by omega)).trans ((xup_n (by omega)).trans ((xup_n (by omega)).trans ?_)); first | assumption | exact xup_s | exact o0 | exact o1)) (by rfl) ?_
  refine ys_f 11 r_321_10 rfl ?_
  refine ys_call (lv2 := [(0, _)]) r_321_11 rfl rfl (by decide) (xcan_str rfl rfl rfl) rfl ?_
  refine ys_gst 3 r_314_0 rfl ?_
  refine ys_f 6 r_314_3 rfl ?_
  refine ys_f 7 r_314_6 rfl ?_
  refine ys_ext 10 r_314_7 rfl rfl rfl rfl ?_
  refine ys_f 14 r_314_10 rfl ?_
  refine ys_ret r_314_14 rfl ?_
  refine yK_v rfl ?_
  refine ys_f 21 r_321_14 rfl ?_
  refine ys_ret r_321_21 rfl ?_
  refine yK_0 rfl ?_
  refine ys_f 6 r_320_5 rfl ?_
  refine ys_f 7 r_320_6 rfl ?_
  refine ys_get 10 r_320_7 rfl rfl (by first | assumption | exact xup_s | exact o0 | exact o1 | (refine (xup_n (by omega)).trans ?_; first | assumption | exact xup_s | exact o0 | exact o1) | (refine (xup_n (by omega)).trans ((xup_n (by omega)).trans ?_); first | assumption | exact xup_s | exact o0 | exact o1) | (refine (xup_n (by omega)).trans ((xup_n (by omega)).trans ((xup_n (by omega)).trans ?_)); first | assumption | exact xup_s | exact o0 | exact o1)) (by rfl) ?_
  refine ys_f 11 r_320_10 rfl ?_
  refine ys_f 12 r_320_11 rfl ?_
  refine ys_get 15 r_320_12 rfl rfl (by first | assumption | exact xup_s | exact o0 | exact o1 | (refine (xup_n (by omega)).trans ?_; first | assumption | exact xup_s | exact o0 | exact o1) | (refine (xup_n (by omega)).trans ((xup_n (by omega)).trans ?_); first | assumption | exact xup_s | exact o0 | exact o1) | (refine (xup_n (by omega)).trans ((xup_n (by omega)).trans ((xup_n (by omega)).trans ?_)); first | assumption | exact xup_s | exact o0 | exact o1)) (by rfl) ?_
  refine ys_call (lv2 := [(0, _), (1, _), (2, _), (3, _)]) r_320_15 rfl rfl (by decide) (xcan_str rfl rfl rfl) rfl ?_
  refine ys_f 1 r_325_0 rfl ?_
  refine ys_call (lv2 := [(0, _)]) r_325_1 rfl rfl (by decide) (xcan_str rfl rfl rfl) rfl ?_
  refine ys_gst 3 r_314_0 rfl ?_
  refine ys_f 6 r_314_3 rfl ?_
  refine ys_f 7 r_314_6 rfl ?_
  refine ys_ext 10 r_314_7 rfl rfl rfl rfl ?_
  refine ys_f 14 r_314_10 rfl ?_
  refine ys_ret r_314_14 rfl ?_
  refine yK_v rfl ?_
  refine ys_f 5 r_325_4 rfl ?_
  refine ys_f 8 r_325_5 rfl ?_
  refine ys_f 9 r_325_8 rfl ?_
  refine ys_ext 12 r_325_9 rfl rfl rfl rfl ?_
  refine ys_f 13 r_325_12 rfl ?_
  refine ys_f 14 r_325_13 rfl ?_
  refine ys_f 15 r_325_14 rfl ?_
  refine ys_f 16 r_325_15 rfl ?_
  refine ys_f 17 r_325_16 rfl ?_
  refine ys_f 18 r_325_17 rfl ?_
  refine ys_ext 21 r_325_18 rfl rfl rfl rfl ?_
  refine ys_len 22 r_325_21 rfl (yarr_r rfl rfl) ?_
  refine ys_cpyC 25 r_325_22 rfl rfl rfl (by have l1 := w1.lo l hB9.2 (by omega); exact l1 _ (by decide)) (show yCb 68 = some (xfB 22) from rfl) (m := 1) rfl rfl (shl0 _) rfl r1 (by omega) (by omega) (by decide +kernel) (fun f2 x2 y2 => ?_)
  refine ys_f 43 r_325_25 rfl ?_
  refine ys_ret r_325_43 rfl ?_
  refine yK_0 rfl ?_
  refine ys_ret r_320_18 rfl ?_
  refine yK_0 rfl ?_
  refine ys_f 34 r_319_33 rfl ?_
  refine ys_f 35 r_319_34 rfl ?_
  refine ys_get 38 r_319_35 rfl rfl ((y2 sb (by omega)).trans o1) (by rfl) ?_
  refine ys_f 39 r_319_38 rfl ?_
  refine ys_f 40 r_319_39 rfl ?_
  refine ys_putC 43 r_319_40 rfl ((y2 sb (by omega)).trans o1) (by rfl) (by rfl) (fun f3 x3 y3 => ?_)
  refine ys_f 44 r_319_43 rfl ?_
  refine ys_ret r_319_44 rfl ?_
  refine yK_v rfl ?_
  refine ys_f 6 r_317_5 rfl ?_
  refine ys_f 7 r_317_6 rfl ?_
  refine ys_ret r_317_7 rfl ?_
  refine k9 (f3, h1.2) ⟨cap1, v1, _, k1, ⟨mb1, (x3.trans (by
    rw [psT_1]
    show (some (Sum.inr (10, [Value.ref v1, Value.int 0, Value.int mb1, Value.int (nI n + nI 1)])) : Option XE) = _
    rw [nI_add]
    rfl))⟩, x2.fr (y3 v1 (by omega)), fun i hi => ?_, fun i hi => ?_, ⟨?_, h161, h221⟩, ⟨hv81, hvB1, hvk1⟩, hk1, hBk1, hB91⟩ ⟨fun c c1 c2 c3 => (y3 c (by omega)).trans ((y2 c (by omega)).trans (w1.1 c c1 c2 c3)), w1.2.1, w1.2.2⟩
  · rw [psT_1] at hi
    have hi : i < n + 1 := hi
    rw [psT_2]
    by_cases z : n ≤ i ∧ i < n + 1
    · exact (if_pos z).trans (if_pos z).symm
    · exact (if_neg z).trans ((hL1 i (by omega)).trans (if_neg z).symm)
  · by_cases z : n ≤ i ∧ i < n + 1
    · obtain ⟨x, hx, e⟩ := (show ∀ q, q < 1 → ∃ x, x < 128 ∧ (xfB 22).getD q 0 = nI x from fun q hq => ⟨((xfB 22).getD q 0).toNatClampNeg, (show ∀ q, q < 1 → ((xfB 22).getD q 0).toNatClampNeg < 128 by decide +kernel) q hq, (show ∀ q, q < 1 → (xfB 22).getD q 0 = nI ((xfB 22).getD q 0).toNatClampNeg by decide +kernel) q hq⟩) (i - n) (by omega)
      exact ⟨x, hx, (if_pos z).trans e⟩
    · obtain ⟨x, hx, e⟩ := hB1 i hi
      exact ⟨x, hx, (if_neg z).trans e⟩
  · rw [psT_1]
    show n + 1 ≤ cap1
    omega

theorem la_317_23  (l : Lo h) (hX : YbX sb B0 h n L) (hn9 : n + 5 ≤ 100) (k9 : ∀ h2, YbX sb B0 h2 (psT (n, L) (xfB 23)).1 (psT (n, L) (xfB 23)).2 → Yw sb B0 h h2 1 220 → Q (.inl (some (.ref sb))) h2) : yP S (d + 5) 317 0 [(0, .ref sb), (1, .ref 49)] [] h Q := by
  obtain ⟨cap, v, Bt, k, hC⟩ := id hX
  obtain ⟨⟨mb, o0⟩, r0, hL, hB, ⟨hn, h16, h220⟩, ⟨hv8, hvB, hvk⟩, hk, hBk, hB9⟩ := id hC
  refine ys_f 1 r_317_0 rfl ?_
  refine ys_f 2 r_317_1 rfl ?_
  refine ys_call (lv2 := [(0, _), (1, _)]) r_317_2 rfl rfl (by decide) (ycan_3b hX rfl rfl rfl rfl) rfl ?_
  refine ys_f 1 r_319_0 rfl ?_
  refine ys_f 9 r_319_1 rfl ?_
  refine ys_f 10 r_319_9 rfl ?_
  refine ys_call (lv2 := [(0, _)]) r_319_10 rfl rfl (by decide) (xcan_str rfl rfl rfl) rfl (yP_up (show d + 1 ≤ d + 3 by omega) (s_312_23 ?_))
  refine yK_v rfl ?_
  refine ys_f 14 (lv2 := [(2, _), (0, _), (1, _)]) r_319_13 rfl ?_
  refine ys_f 15 r_319_14 rfl ?_
  refine ys_f 16 r_319_15 rfl ?_
  refine ys_get 19 r_319_16 rfl rfl (by first | assumption | exact xup_s | exact o0 | exact o1 | (refine (xup_n (by omega)).trans ?_; first | assumption | exact xup_s | exact o0 | exact o1) | (refine (xup_n (by omega)).trans ((xup_n (by omega)).trans ?_); first | assumption | exact xup_s | exact o0 | exact o1) | (refine (xup_n (by omega)).trans ((xup_n (by omega)).trans ((xup_n (by omega)).trans ?_)); first | assumption | exact xup_s | exact o0 | exact o1)) (by rfl) ?_
  refine ys_f 20 r_319_19 rfl ?_
  refine ys_f 21 r_319_20 rfl ?_
  refine ys_call (lv2 := [(0, _), (1, _)]) r_319_21 rfl rfl (by decide) (xcan_0 rfl rfl (by first | assumption | exact xup_s | exact o0 | exact o1 | (refine (xup_n (by omega)).trans ?_; first | assumption | exact xup_s | exact o0 | exact o1) | (refine (xup_n (by omega)).trans ((xup_n (by omega)).trans ?_); first | assumption | exact xup_s | exact o0 | exact o1) | (refine (xup_n (by omega)).trans ((xup_n (by omega)).trans ((xup_n (by omega)).trans ?_)); first | assumption | exact xup_s | exact o0 | exact o1)) (by rfl)) rfl (yP_lv [(0, .ref sb), (1, .int (nI (n + 5)))] rfl ⟨rfl, (congrArg (fun z => some (Value.int z)) (nI_addE rfl rfl)), trivial⟩ (yP_up (show d + 2 ≤ d + 3 by omega) (ey_300 hC (mn := n + 5) (by omega) (by omega) (fun h1 cap1 v1 Bt1 k1 hm1 hC1 w1 => ?_))))
  obtain ⟨⟨mb1, o1⟩, r1, hL1, hB1, ⟨hn1, h161, h221⟩, ⟨hv81, hvB1, hvk1⟩, hk1, hBk1, hB91⟩ := id hC1
  refine yK_0 rfl ?_
  refine ys_f 25 r_319_24 rfl ?_
  refine ys_f 26 r_319_25 rfl ?_
  refine ys_get 29 r_319_26 rfl rfl (by first | assumption | exact xup_s | exact o0 | exact o1 | (refine (xup_n (by omega)).trans ?_; first | assumption | exact xup_s | exact o0 | exact o1) | (refine (xup_n (by omega)).trans ((xup_n (by omega)).trans ?_); first | assumption | exact xup_s | exact o0 | exact o1) | (refine (xup_n (by omega)).trans ((xup_n (by omega)).trans ((xup_n (by omega)).trans ?_)); first | assumption | exact xup_s | exact o0 | exact o1)) (by rfl) ?_
  refine ys_f 30 r_319_29 rfl ?_
  refine ys_call (lv2 := [(0, _), (1, _), (2, _)]) r_319_30 rfl rfl (by decide) (xcan_0 rfl rfl (by first | assumption | exact xup_s | exact o0 | exact o1 | (refine (xup_n (by omega)).trans ?_; first | assumption | exact xup_s | exact o0 | exact o1) | (refine (xup_n (by omega)).trans ((xup_n (by omega)).trans ?_); first | assumption | exact xup_s | exact o0 | exact o1) | (refine (xup_n (by omega)).trans ((xup_n (by omega)).trans ((xup_n (by omega)).trans ?_)); first | assumption | exact xup_s | exact o0 | exact o1)) (by rfl)) rfl ?_
  refine ys_f 1 r_320_0 rfl ?_
  refine ys_f 2 r_320_1 rfl ?_
  refine ys_call (lv2 := [(0, _), (1, _)]) r_320_2 rfl rfl (by decide) (xcan_0 rfl rfl (by first | assumption | exact xup_s | exact o0 | exact o1 | (refine (xup_n (by omega)).trans ?_; first | assumption | exact xup_s | exact o0 | exact o1) | (refine (xup_n (by omega)).trans ((xup_n (by omega)).trans ?_); first | assumption | exact xup_s | exact o0 | exact o1) | (refine (xup_n (by omega)).trans ((xup_n (by omega)).trans ((xup_n (by omega)).trans ?_)); first | assumption | exact xup_s | exact o0 | exact o1)) (by rfl)) rfl ?_
  refine ys_gst 3 r_321_0 rfl ?_
  refine ys_f 6 r_321_3 rfl ?_
  refine ys_f 7 r_321_6 rfl ?_
  refine ys_get 10 r_321_7 rfl rfl (by first | assumption | exact xup_s | exact o0 | exact o1 | (refine (xup_n (by omega)).trans ?_; first | assumption | exact xup_s | exact o0 | exact o1) | (refine (xup_n (by omega)).trans ((xup_n (by omega)).trans ?_); first | assumption | exact xup_s | exact o0 | exact o1) | (refine (xup_n (by omega)).trans ((xup_n (by omega)).trans ((xup_n (by omega)).trans ?_)); first | assumption | exact xup_s | exact o0 | exact o1)) (by rfl) ?_
  refine ys_f 11 r_321_10 rfl ?_
  refine ys_call (lv2 := [(0, _)]) r_321_11 rfl rfl (by decide) (xcan_str rfl rfl rfl) rfl ?_
  refine ys_gst 3 r_314_0 rfl ?_
  refine ys_f 6 r_314_3 rfl ?_
  refine ys_f 7 r_314_6 rfl ?_
  refine ys_ext 10 r_314_7 rfl rfl rfl rfl ?_
  refine ys_f 14 r_314_10 rfl ?_
  refine ys_ret r_314_14 rfl ?_
  refine yK_v rfl ?_
  refine ys_f 21 r_321_14 rfl ?_
  refine ys_ret r_321_21 rfl ?_
  refine yK_0 rfl ?_
  refine ys_f 6 r_320_5 rfl ?_
  refine ys_f 7 r_320_6 rfl ?_
  refine ys_get 10 r_320_7 rfl rfl (by first | assumption | exact xup_s | exact o0 | exact o1 | (refine (xup_n (by omega)).trans ?_; first | assumption | exact xup_s | exact o0 | exact o1) | (refine (xup_n (by omega)).trans ((xup_n (by omega)).trans ?_); first | assumption | exact xup_s | exact o0 | exact o1) | (refine (xup_n (by omega)).trans ((xup_n (by omega)).trans ((xup_n (by omega)).trans ?_)); first | assumption | exact xup_s | exact o0 | exact o1)) (by rfl) ?_
  refine ys_f 11 r_320_10 rfl ?_
  refine ys_f 12 r_320_11 rfl ?_
  refine ys_get 15 r_320_12 rfl rfl (by first | assumption | exact xup_s | exact o0 | exact o1 | (refine (xup_n (by omega)).trans ?_; first | assumption | exact xup_s | exact o0 | exact o1) | (refine (xup_n (by omega)).trans ((xup_n (by omega)).trans ?_); first | assumption | exact xup_s | exact o0 | exact o1) | (refine (xup_n (by omega)).trans ((xup_n (by omega)).trans ((xup_n (by omega)).trans ?_)); first | assumption | exact xup_s | exact o0 | exact o1)) (by rfl) ?_
  refine ys_call (lv2 := [(0, _), (1, _), (2, _), (3, _)]) r_320_15 rfl rfl (by decide) (xcan_str rfl rfl rfl) rfl ?_
  refine ys_f 1 r_325_0 rfl ?_
  refine ys_call (lv2 := [(0, _)]) r_325_1 rfl rfl (by decide) (xcan_str rfl rfl rfl) rfl ?_
  refine ys_gst 3 r_314_0 rfl ?_
  refine ys_f 6 r_314_3 rfl ?_
  refine ys_f 7 r_314_6 rfl ?_
  refine ys_ext 10 r_314_7 rfl rfl rfl rfl ?_
  refine ys_f 14 r_314_10 rfl ?_
  refine ys_ret r_314_14 rfl ?_
  refine yK_v rfl ?_
  refine ys_f 5 r_325_4 rfl ?_
  refine ys_f 8 r_325_5 rfl ?_
  refine ys_f 9 r_325_8 rfl ?_
  refine ys_ext 12 r_325_9 rfl rfl rfl rfl ?_
  refine ys_f 13 r_325_12 rfl ?_
  refine ys_f 14 r_325_13 rfl ?_
  refine ys_f 15 r_325_14 rfl ?_
  refine ys_f 16 r_325_15 rfl ?_
  refine ys_f 17 r_325_16 rfl ?_
  refine ys_f 18 r_325_17 rfl ?_
  refine ys_ext 21 r_325_18 rfl rfl rfl rfl ?_
  refine ys_len 22 r_325_21 rfl (yarr_r rfl rfl) ?_
  refine ys_cpyC 25 r_325_22 rfl rfl rfl (by have l1 := w1.lo l hB9.2 (by omega); exact l1 _ (by decide)) (show yCb 69 = some (xfB 23) from rfl) (m := 5) rfl rfl (shl0 _) rfl r1 (by omega) (by omega) (by decide +kernel) (fun f2 x2 y2 => ?_)
  refine ys_f 43 r_325_25 rfl ?_
  refine ys_ret r_325_43 rfl ?_
  refine yK_0 rfl ?_
  refine ys_ret r_320_18 rfl ?_
  refine yK_0 rfl ?_
  refine ys_f 34 r_319_33 rfl ?_
  refine ys_f 35 r_319_34 rfl ?_
  refine ys_get 38 r_319_35 rfl rfl ((y2 sb (by omega)).trans o1) (by rfl) ?_
  refine ys_f 39 r_319_38 rfl ?_
  refine ys_f 40 r_319_39 rfl ?_
  refine ys_putC 43 r_319_40 rfl ((y2 sb (by omega)).trans o1) (by rfl) (by rfl) (fun f3 x3 y3 => ?_)
  refine ys_f 44 r_319_43 rfl ?_
  refine ys_ret r_319_44 rfl ?_
  refine yK_v rfl ?_
  refine ys_f 6 r_317_5 rfl ?_
  refine ys_f 7 r_317_6 rfl ?_
  refine ys_ret r_317_7 rfl ?_
  refine k9 (f3, h1.2) ⟨cap1, v1, _, k1, ⟨mb1, (x3.trans (by
    rw [psT_1]
    show (some (Sum.inr (10, [Value.ref v1, Value.int 0, Value.int mb1, Value.int (nI n + nI 5)])) : Option XE) = _
    rw [nI_add]
    rfl))⟩, x2.fr (y3 v1 (by omega)), fun i hi => ?_, fun i hi => ?_, ⟨?_, h161, h221⟩, ⟨hv81, hvB1, hvk1⟩, hk1, hBk1, hB91⟩ ⟨fun c c1 c2 c3 => (y3 c (by omega)).trans ((y2 c (by omega)).trans (w1.1 c c1 c2 c3)), w1.2.1, w1.2.2⟩
  · rw [psT_1] at hi
    have hi : i < n + 5 := hi
    rw [psT_2]
    by_cases z : n ≤ i ∧ i < n + 5
    · exact (if_pos z).trans (if_pos z).symm
    · exact (if_neg z).trans ((hL1 i (by omega)).trans (if_neg z).symm)
  · by_cases z : n ≤ i ∧ i < n + 5
    · obtain ⟨x, hx, e⟩ := (show ∀ q, q < 5 → ∃ x, x < 128 ∧ (xfB 23).getD q 0 = nI x from fun q hq => ⟨((xfB 23).getD q 0).toNatClampNeg, (show ∀ q, q < 5 → ((xfB 23).getD q 0).toNatClampNeg < 128 by decide +kernel) q hq, (show ∀ q, q < 5 → (xfB 23).getD q 0 = nI ((xfB 23).getD q 0).toNatClampNeg by decide +kernel) q hq⟩) (i - n) (by omega)
      exact ⟨x, hx, (if_pos z).trans e⟩
    · obtain ⟨x, hx, e⟩ := hB1 i hi
      exact ⟨x, hx, (if_neg z).trans e⟩
  · rw [psT_1]
    show n + 5 ≤ cap1
    omega

theorem la_317_24  (l : Lo h) (hX : YbX sb B0 h n L) (hn9 : n + 5 ≤ 100) (k9 : ∀ h2, YbX sb B0 h2 (psT (n, L) (xfB 24)).1 (psT (n, L) (xfB 24)).2 → Yw sb B0 h h2 1 220 → Q (.inl (some (.ref sb))) h2) : yP S (d + 5) 317 0 [(0, .ref sb), (1, .ref 50)] [] h Q := by
  obtain ⟨cap, v, Bt, k, hC⟩ := id hX
  obtain ⟨⟨mb, o0⟩, r0, hL, hB, ⟨hn, h16, h220⟩, ⟨hv8, hvB, hvk⟩, hk, hBk, hB9⟩ := id hC
  refine ys_f 1 r_317_0 rfl ?_
  refine ys_f 2 r_317_1 rfl ?_
  refine ys_call (lv2 := [(0, _), (1, _)]) r_317_2 rfl rfl (by decide) (ycan_3b hX rfl rfl rfl rfl) rfl ?_
  refine ys_f 1 r_319_0 rfl ?_
  refine ys_f 9 r_319_1 rfl ?_
  refine ys_f 10 r_319_9 rfl ?_
  refine ys_call (lv2 := [(0, _)]) r_319_10 rfl rfl (by decide) (xcan_str rfl rfl rfl) rfl (yP_up (show d + 1 ≤ d + 3 by omega) (s_312_24 ?_))
  refine yK_v rfl ?_
  refine ys_f 14 (lv2 := [(2, _), (0, _), (1, _)]) r_319_13 rfl ?_
  refine ys_f 15 r_319_14 rfl ?_
  refine ys_f 16 r_319_15 rfl ?_
  refine ys_get 19 r_319_16 rfl rfl (by first | assumption | exact xup_s | exact o0 | exact o1 | (refine (xup_n (by omega)).trans ?_; first | assumption | exact xup_s | exact o0 | exact o1) | (refine (xup_n (by omega)).trans ((xup_n (by omega)).trans ?_); first | assumption | exact xup_s | exact o0 | exact o1) | (refine (xup_n (by omega)).trans ((xup_n (by omega)).trans ((xup_n (by omega)).trans ?_)); first | assumption | exact xup_s | exact o0 | exact o1)) (by rfl) ?_
  refine ys_f 20 r_319_19 rfl ?_
  refine ys_f 21 r_319_20 rfl ?_
  refine ys_call (lv2 := [(0, _), (1, _)]) r_319_21 rfl rfl (by decide) (xcan_0 rfl rfl (by first | assumption | exact xup_s | exact o0 | exact o1 | (refine (xup_n (by omega)).trans ?_; first | assumption | exact xup_s | exact o0 | exact o1) | (refine (xup_n (by omega)).trans ((xup_n (by omega)).trans ?_); first | assumption | exact xup_s | exact o0 | exact o1) | (refine (xup_n (by omega)).trans ((xup_n (by omega)).trans ((xup_n (by omega)).trans ?_)); first | assumption | exact xup_s | exact o0 | exact o1)) (by rfl)) rfl (yP_lv [(0, .ref sb), (1, .int (nI (n + 5)))] rfl ⟨rfl, (congrArg (fun z => some (Value.int z)) (nI_addE rfl rfl)), trivial⟩ (yP_up (show d + 2 ≤ d + 3 by omega) (ey_300 hC (mn := n + 5) (by omega) (by omega) (fun h1 cap1 v1 Bt1 k1 hm1 hC1 w1 => ?_))))
  obtain ⟨⟨mb1, o1⟩, r1, hL1, hB1, ⟨hn1, h161, h221⟩, ⟨hv81, hvB1, hvk1⟩, hk1, hBk1, hB91⟩ := id hC1
  refine yK_0 rfl ?_
  refine ys_f 25 r_319_24 rfl ?_
  refine ys_f 26 r_319_25 rfl ?_
  refine ys_get 29 r_319_26 rfl rfl (by first | assumption | exact xup_s | exact o0 | exact o1 | (refine (xup_n (by omega)).trans ?_; first | assumption | exact xup_s | exact o0 | exact o1) | (refine (xup_n (by omega)).trans ((xup_n (by omega)).trans ?_); first | assumption | exact xup_s | exact o0 | exact o1) | (refine (xup_n (by omega)).trans ((xup_n (by omega)).trans ((xup_n (by omega)).trans ?_)); first | assumption | exact xup_s | exact o0 | exact o1)) (by rfl) ?_
  refine ys_f 30 r_319_29 rfl ?_
  refine ys_call (lv2 := [(0, _), (1, _), (2, _)]) r_319_30 rfl rfl (by decide) (xcan_0 rfl rfl (by first | assumption | exact xup_s | exact o0 | exact o1 | (refine (xup_n (by omega)).trans ?_; first | assumption | exact xup_s | exact o0 | exact o1) | (refine (xup_n (by omega)).trans ((xup_n (by omega)).trans ?_); first | assumption | exact xup_s | exact o0 | exact o1) | (refine (xup_n (by omega)).trans ((xup_n (by omega)).trans ((xup_n (by omega)).trans ?_)); first | assumption | exact xup_s | exact o0 | exact o1)) (by rfl)) rfl ?_
  refine ys_f 1 r_320_0 rfl ?_
  refine ys_f 2 r_320_1 rfl ?_
  refine ys_call (lv2 := [(0, _), (1, _)]) r_320_2 rfl rfl (by decide) (xcan_0 rfl rfl (by first | assumption | exact xup_s | exact o0 | exact o1 | (refine (xup_n (by omega)).trans ?_; first | assumption | exact xup_s | exact o0 | exact o1) | (refine (xup_n (by omega)).trans ((xup_n (by omega)).trans ?_); first | assumption | exact xup_s | exact o0 | exact o1) | (refine (xup_n (by omega)).trans ((xup_n (by omega)).trans ((xup_n (by omega)).trans ?_)); first | assumption | exact xup_s | exact o0 | exact o1)) (by rfl)) rfl ?_
  refine ys_gst 3 r_321_0 rfl ?_
  refine ys_f 6 r_321_3 rfl ?_
  refine ys_f 7 r_321_6 rfl ?_
  refine ys_get 10 r_321_7 rfl rfl (by first | assumption | exact xup_s | exact o0 | exact o1 | (refine (xup_n (by omega)).trans ?_; first | assumption | exact xup_s | exact o0 | exact o1) | (refine (xup_n (by omega)).trans ((xup_n (by omega)).trans ?_); first | assumption | exact xup_s | exact o0 | exact o1) | (refine (xup_n (by omega)).trans ((xup_n (by omega)).trans ((xup_n (by omega)).trans ?_)); first | assumption | exact xup_s | exact o0 | exact o1)) (by rfl) ?_
  refine ys_f 11 r_321_10 rfl ?_
  refine ys_call (lv2 := [(0, _)]) r_321_11 rfl rfl (by decide) (xcan_str rfl rfl rfl) rfl ?_
  refine ys_gst 3 r_314_0 rfl ?_
  refine ys_f 6 r_314_3 rfl ?_
  refine ys_f 7 r_314_6 rfl ?_
  refine ys_ext 10 r_314_7 rfl rfl rfl rfl ?_
  refine ys_f 14 r_314_10 rfl ?_
  refine ys_ret r_314_14 rfl ?_
  refine yK_v rfl ?_
  refine ys_f 21 r_321_14 rfl ?_
  refine ys_ret r_321_21 rfl ?_
  refine yK_0 rfl ?_
  refine ys_f 6 r_320_5 rfl ?_
  refine ys_f 7 r_320_6 rfl ?_
  refine ys_get 10 r_320_7 rfl rfl (by first | assumption | exact xup_s | exact o0 | exact o1 | (refine (xup_n (by omega)).trans ?_; first | assumption | exact xup_s | exact o0 | exact o1) | (refine (xup_n (by omega)).trans ((xup_n (by omega)).trans ?_); first | assumption | exact xup_s | exact o0 | exact o1) | (refine (xup_n (by omega)).trans ((xup_n (by omega)).trans ((xup_n (by omega)).trans ?_)); first | assumption | exact xup_s | exact o0 | exact o1)) (by rfl) ?_
  refine ys_f 11 r_320_10 rfl ?_
  refine ys_f 12 r_320_11 rfl ?_
  refine ys_get 15 r_320_12 rfl rfl (by first | assumption | exact xup_s | exact o0 | exact o1 | (refine (xup_n (by omega)).trans ?_; first | assumption | exact xup_s | exact o0 | exact o1) | (refine (xup_n (by omega)).trans ((xup_n (by omega)).trans ?_); first | assumption | exact xup_s | exact o0 | exact o1) | (refine (xup_n (by omega)).trans ((xup_n (by omega)).trans ((xup_n (by omega)).trans ?_)); first | assumption | exact xup_s | exact o0 | exact o1)) (by rfl) ?_
  refine ys_call (lv2 := [(0, _), (1, _), (2, _), (3, _)]) r_320_15 rfl rfl (by decide) (xcan_str rfl rfl rfl) rfl ?_
  refine ys_f 1 r_325_0 rfl ?_
  refine ys_call (lv2 := [(0, _)]) r_325_1 rfl rfl (by decide) (xcan_str rfl rfl rfl) rfl ?_
  refine ys_gst 3 r_314_0 rfl ?_
  refine ys_f 6 r_314_3 rfl ?_
  refine ys_f 7 r_314_6 rfl ?_
  refine ys_ext 10 r_314_7 rfl rfl rfl rfl ?_
  refine ys_f 14 r_314_10 rfl ?_
  refine ys_ret r_314_14 rfl ?_
  refine yK_v rfl ?_
  refine ys_f 5 r_325_4 rfl ?_
  refine ys_f 8 r_325_5 rfl ?_
  refine ys_f 9 r_325_8 rfl ?_
  refine ys_ext 12 r_325_9 rfl rfl rfl rfl ?_
  refine ys_f 13 r_325_12 rfl ?_
  refine ys_f 14 r_325_13 rfl ?_
  refine ys_f 15 r_325_14 rfl ?_
  refine ys_f 16 r_325_15 rfl ?_
  refine ys_f 17 r_325_16 rfl ?_
  refine ys_f 18 r_325_17 rfl ?_
  refine ys_ext 21 r_325_18 rfl rfl rfl rfl ?_
  refine ys_len 22 r_325_21 rfl (yarr_r rfl rfl) ?_
  refine ys_cpyC 25 r_325_22 rfl rfl rfl (by have l1 := w1.lo l hB9.2 (by omega); exact l1 _ (by decide)) (show yCb 70 = some (xfB 24) from rfl) (m := 5) rfl rfl (shl0 _) rfl r1 (by omega) (by omega) (by decide +kernel) (fun f2 x2 y2 => ?_)
  refine ys_f 43 r_325_25 rfl ?_
  refine ys_ret r_325_43 rfl ?_
  refine yK_0 rfl ?_
  refine ys_ret r_320_18 rfl ?_
  refine yK_0 rfl ?_
  refine ys_f 34 r_319_33 rfl ?_
  refine ys_f 35 r_319_34 rfl ?_
  refine ys_get 38 r_319_35 rfl rfl ((y2 sb (by omega)).trans o1) (by rfl) ?_
  refine ys_f 39 r_319_38 rfl ?_
  refine ys_f 40 r_319_39 rfl ?_
  refine ys_putC 43 r_319_40 rfl ((y2 sb (by omega)).trans o1) (by rfl) (by rfl) (fun f3 x3 y3 => ?_)
  refine ys_f 44 r_319_43 rfl ?_
  refine ys_ret r_319_44 rfl ?_
  refine yK_v rfl ?_
  refine ys_f 6 r_317_5 rfl ?_
  refine ys_f 7 r_317_6 rfl ?_
  refine ys_ret r_317_7 rfl ?_
  refine k9 (f3, h1.2) ⟨cap1, v1, _, k1, ⟨mb1, (x3.trans (by
    rw [psT_1]
    show (some (Sum.inr (10, [Value.ref v1, Value.int 0, Value.int mb1, Value.int (nI n + nI 5)])) : Option XE) = _
    rw [nI_add]
    rfl))⟩, x2.fr (y3 v1 (by omega)), fun i hi => ?_, fun i hi => ?_, ⟨?_, h161, h221⟩, ⟨hv81, hvB1, hvk1⟩, hk1, hBk1, hB91⟩ ⟨fun c c1 c2 c3 => (y3 c (by omega)).trans ((y2 c (by omega)).trans (w1.1 c c1 c2 c3)), w1.2.1, w1.2.2⟩
  · rw [psT_1] at hi
    have hi : i < n + 5 := hi
    rw [psT_2]
    by_cases z : n ≤ i ∧ i < n + 5
    · exact (if_pos z).trans (if_pos z).symm
    · exact (if_neg z).trans ((hL1 i (by omega)).trans (if_neg z).symm)
  · by_cases z : n ≤ i ∧ i < n + 5
    · obtain ⟨x, hx, e⟩ := (show ∀ q, q < 5 → ∃ x, x < 128 ∧ (xfB 24).getD q 0 = nI x from fun q hq => ⟨((xfB 24).getD q 0).toNatClampNeg, (show ∀ q, q < 5 → ((xfB 24).getD q 0).toNatClampNeg < 128 by decide +kernel) q hq, (show ∀ q, q < 5 → (xfB 24).getD q 0 = nI ((xfB 24).getD q 0).toNatClampNeg by decide +kernel) q hq⟩) (i - n) (by omega)
      exact ⟨x, hx, (if_pos z).trans e⟩
    · obtain ⟨x, hx, e⟩ := hB1 i hi
      exact ⟨x, hx, (if_neg z).trans e⟩
  · rw [psT_1]
    show n + 5 ≤ cap1
    omega

theorem la_317_25  (l : Lo h) (hX : YbX sb B0 h n L) (hn9 : n + 2 ≤ 100) (k9 : ∀ h2, YbX sb B0 h2 (psT (n, L) (xfB 25)).1 (psT (n, L) (xfB 25)).2 → Yw sb B0 h h2 1 220 → Q (.inl (some (.ref sb))) h2) : yP S (d + 5) 317 0 [(0, .ref sb), (1, .ref 51)] [] h Q := by
  obtain ⟨cap, v, Bt, k, hC⟩ := id hX
  obtain ⟨⟨mb, o0⟩, r0, hL, hB, ⟨hn, h16, h220⟩, ⟨hv8, hvB, hvk⟩, hk, hBk, hB9⟩ := id hC
  refine ys_f 1 r_317_0 rfl ?_
  refine ys_f 2 r_317_1 rfl ?_
  refine ys_call (lv2 := [(0, _), (1, _)]) r_317_2 rfl rfl (by decide) (ycan_3b hX rfl rfl rfl rfl) rfl ?_
  refine ys_f 1 r_319_0 rfl ?_
  refine ys_f 9 r_319_1 rfl ?_
  refine ys_f 10 r_319_9 rfl ?_
  refine ys_call (lv2 := [(0, _)]) r_319_10 rfl rfl (by decide) (xcan_str rfl rfl rfl) rfl (yP_up (show d + 1 ≤ d + 3 by omega) (s_312_25 ?_))
  refine yK_v rfl ?_
  refine ys_f 14 (lv2 := [(2, _), (0, _), (1, _)]) r_319_13 rfl ?_
  refine ys_f 15 r_319_14 rfl ?_
  refine ys_f 16 r_319_15 rfl ?_
  refine ys_get 19 r_319_16 rfl rfl (by first | assumption | exact xup_s | exact o0 | exact o1 | (refine (xup_n (by omega)).trans ?_; first | assumption | exact xup_s | exact o0 | exact o1) | (refine (xup_n (by omega)).trans ((xup_n (by omega)).trans ?_); first | assumption | exact xup_s | exact o0 | exact o1) | (refine (xup_n (by omega)).trans ((xup_n (by omega)).trans ((xup_n (by omega)).trans ?_)); first | assumption | exact xup_s | exact o0 | exact o1)) (by rfl) ?_
  refine ys_f 20 r_319_19 rfl ?_
  refine ys_f 21 r_319_20 rfl ?_
  refine ys_call (lv2 := [(0, _), (1, _)]) r_319_21 rfl rfl (by decide) (xcan_0 rfl rfl (by first | assumption | exact xup_s | exact o0 | exact o1 | (refine (xup_n (by omega)).trans ?_; first | assumption | exact xup_s | exact o0 | exact o1) | (refine (xup_n (by omega)).trans ((xup_n (by omega)).trans ?_); first | assumption | exact xup_s | exact o0 | exact o1) | (refine (xup_n (by omega)).trans ((xup_n (by omega)).trans ((xup_n (by omega)).trans ?_)); first | assumption | exact xup_s | exact o0 | exact o1)) (by rfl)) rfl (yP_lv [(0, .ref sb), (1, .int (nI (n + 2)))] rfl ⟨rfl, (congrArg (fun z => some (Value.int z)) (nI_addE rfl rfl)), trivial⟩ (yP_up (show d + 2 ≤ d + 3 by omega) (ey_300 hC (mn := n + 2) (by omega) (by omega) (fun h1 cap1 v1 Bt1 k1 hm1 hC1 w1 => ?_))))
  obtain ⟨⟨mb1, o1⟩, r1, hL1, hB1, ⟨hn1, h161, h221⟩, ⟨hv81, hvB1, hvk1⟩, hk1, hBk1, hB91⟩ := id hC1
  refine yK_0 rfl ?_
  refine ys_f 25 r_319_24 rfl ?_
  refine ys_f 26 r_319_25 rfl ?_
  refine ys_get 29 r_319_26 rfl rfl (by first | assumption | exact xup_s | exact o0 | exact o1 | (refine (xup_n (by omega)).trans ?_; first | assumption | exact xup_s | exact o0 | exact o1) | (refine (xup_n (by omega)).trans ((xup_n (by omega)).trans ?_); first | assumption | exact xup_s | exact o0 | exact o1) | (refine (xup_n (by omega)).trans ((xup_n (by omega)).trans ((xup_n (by omega)).trans ?_)); first | assumption | exact xup_s | exact o0 | exact o1)) (by rfl) ?_
  refine ys_f 30 r_319_29 rfl ?_
  refine ys_call (lv2 := [(0, _), (1, _), (2, _)]) r_319_30 rfl rfl (by decide) (xcan_0 rfl rfl (by first | assumption | exact xup_s | exact o0 | exact o1 | (refine (xup_n (by omega)).trans ?_; first | assumption | exact xup_s | exact o0 | exact o1) | (refine (xup_n (by omega)).trans ((xup_n (by omega)).trans ?_); first | assumption | exact xup_s | exact o0 | exact o1) | (refine (xup_n (by omega)).trans ((xup_n (by omega)).trans ((xup_n (by omega)).trans ?_)); first | assumption | exact xup_s | exact o0 | exact o1)) (by rfl)) rfl ?_
  refine ys_f 1 r_320_0 rfl ?_
  refine ys_f 2 r_320_1 rfl ?_
  refine ys_call (lv2 := [(0, _), (1, _)]) r_320_2 rfl rfl (by decide) (xcan_0 rfl rfl (by first | assumption | exact xup_s | exact o0 | exact o1 | (refine (xup_n (by omega)).trans ?_; first | assumption | exact xup_s | exact o0 | exact o1) | (refine (xup_n (by omega)).trans ((xup_n (by omega)).trans ?_); first | assumption | exact xup_s | exact o0 | exact o1) | (refine (xup_n (by omega)).trans ((xup_n (by omega)).trans ((xup_n (by omega)).trans ?_)); first | assumption | exact xup_s | exact o0 | exact o1)) (by rfl)) rfl ?_
  refine ys_gst 3 r_321_0 rfl ?_
  refine ys_f 6 r_321_3 rfl ?_
  refine ys_f 7 r_321_6 rfl ?_
  refine ys_get 10 r_321_7 rfl rfl (by first | assumption | exact xup_s | exact o0 | exact o1 | (refine (xup_n (by omega)).trans ?_; first | assumption | exact xup_s | exact o0 | exact o1) | (refine (xup_n (by omega)).trans ((xup_n (by omega)).trans ?_); first | assumption | exact xup_s | exact o0 | exact o1) | (refine (xup_n (by omega)).trans ((xup_n (by omega)).trans ((xup_n (by omega)).trans ?_)); first | assumption | exact xup_s | exact o0 | exact o1)) (by rfl) ?_
  refine ys_f 11 r_321_10 rfl ?_
  refine ys_call (lv2 := [(0, _)]) r_321_11 rfl rfl (by decide) (xcan_str rfl rfl rfl) rfl ?_
  refine ys_gst 3 r_314_0 rfl ?_
  refine ys_f 6 r_314_3 rfl ?_
  refine ys_f 7 r_314_6 rfl ?_
  refine ys_ext 10 r_314_7 rfl rfl rfl rfl ?_
  refine ys_f 14 r_314_10 rfl ?_
  refine ys_ret r_314_14 rfl ?_
  refine yK_v rfl ?_
  refine ys_f 21 r_321_14 rfl ?_
  refine ys_ret r_321_21 rfl ?_
  refine yK_0 rfl ?_
  refine ys_f 6 r_320_5 rfl ?_
  refine ys_f 7 r_320_6 rfl ?_
  refine ys_get 10 r_320_7 rfl rfl (by first | assumption | exact xup_s | exact o0 | exact o1 | (refine (xup_n (by omega)).trans ?_; first | assumption | exact xup_s | exact o0 | exact o1) | (refine (xup_n (by omega)).trans ((xup_n (by omega)).trans ?_); first | assumption | exact xup_s | exact o0 | exact o1) | (refine (xup_n (by omega)).trans ((xup_n (by omega)).trans ((xup_n (by omega)).trans ?_)); first | assumption | exact xup_s | exact o0 | exact o1)) (by rfl) ?_
  refine ys_f 11 r_320_10 rfl ?_
  refine ys_f 12 r_320_11 rfl ?_
  refine ys_get 15 r_320_12 rfl rfl (by first | assumption | exact xup_s | exact o0 | exact o1 | (refine (xup_n (by omega)).trans ?_; first | assumption | exact xup_s | exact o0 | exact o1) | (refine (xup_n (by omega)).trans ((xup_n (by omega)).trans ?_); first | assumption | exact xup_s | exact o0 | exact o1) | (refine (xup_n (by omega)).trans ((xup_n (by omega)).trans ((xup_n (by omega)).trans ?_)); first | assumption | exact xup_s | exact o0 | exact o1)) (by rfl) ?_
  refine ys_call (lv2 := [(0, _), (1, _), (2, _), (3, _)]) r_320_15 rfl rfl (by decide) (xcan_str rfl rfl rfl) rfl ?_
  refine ys_f 1 r_325_0 rfl ?_
  refine ys_call (lv2 := [(0, _)]) r_325_1 rfl rfl (by decide) (xcan_str rfl rfl rfl) rfl ?_
  refine ys_gst 3 r_314_0 rfl ?_
  refine ys_f 6 r_314_3 rfl ?_
  refine ys_f 7 r_314_6 rfl ?_
  refine ys_ext 10 r_314_7 rfl rfl rfl rfl ?_
  refine ys_f 14 r_314_10 rfl ?_
  refine ys_ret r_314_14 rfl ?_
  refine yK_v rfl ?_
  refine ys_f 5 r_325_4 rfl ?_
  refine ys_f 8 r_325_5 rfl ?_
  refine ys_f 9 r_325_8 rfl ?_
  refine ys_ext 12 r_325_9 rfl rfl rfl rfl ?_
  refine ys_f 13 r_325_12 rfl ?_
  refine ys_f 14 r_325_13 rfl ?_
  refine ys_f 15 r_325_14 rfl ?_
  refine ys_f 16 r_325_15 rfl ?_
  refine ys_f 17 r_325_16 rfl ?_
  refine ys_f 18 r_325_17 rfl ?_
  refine ys_ext 21 r_325_18 rfl rfl rfl rfl ?_
  refine ys_len 22 r_325_21 rfl (yarr_r rfl rfl) ?_
  refine ys_cpyC 25 r_325_22 rfl rfl rfl (by have l1 := w1.lo l hB9.2 (by omega); exact l1 _ (by decide)) (show yCb 71 = some (xfB 25) from rfl) (m := 2) rfl rfl (shl0 _) rfl r1 (by omega) (by omega) (by decide +kernel) (fun f2 x2 y2 => ?_)
  refine ys_f 43 r_325_25 rfl ?_
  refine ys_ret r_325_43 rfl ?_
  refine yK_0 rfl ?_
  refine ys_ret r_320_18 rfl ?_
  refine yK_0 rfl ?_
  refine ys_f 34 r_319_33 rfl ?_
  refine ys_f 35 r_319_34 rfl ?_
  refine ys_get 38 r_319_35 rfl rfl ((y2 sb (by omega)).trans o1) (by rfl) ?_
  refine ys_f 39 r_319_38 rfl ?_
  refine ys_f 40 r_319_39 rfl ?_
  refine ys_putC 43 r_319_40 rfl ((y2 sb (by omega)).trans o1) (by rfl) (by rfl) (fun f3 x3 y3 => ?_)
  refine ys_f 44 r_319_43 rfl ?_
  refine ys_ret r_319_44 rfl ?_
  refine yK_v rfl ?_
  refine ys_f 6 r_317_5 rfl ?_
  refine ys_f 7 r_317_6 rfl ?_
  refine ys_ret r_317_7 rfl ?_
  refine k9 (f3, h1.2) ⟨cap1, v1, _, k1, ⟨mb1, (x3.trans (by
    rw [psT_1]
    show (some (Sum.inr (10, [Value.ref v1, Value.int 0, Value.int mb1, Value.int (nI n + nI 2)])) : Option XE) = _
    rw [nI_add]
    rfl))⟩, x2.fr (y3 v1 (by omega)), fun i hi => ?_, fun i hi => ?_, ⟨?_, h161, h221⟩, ⟨hv81, hvB1, hvk1⟩, hk1, hBk1, hB91⟩ ⟨fun c c1 c2 c3 => (y3 c (by omega)).trans ((y2 c (by omega)).trans (w1.1 c c1 c2 c3)), w1.2.1, w1.2.2⟩
  · rw [psT_1] at hi
    have hi : i < n + 2 := hi
    rw [psT_2]
    by_cases z : n ≤ i ∧ i < n + 2
    · exact (if_pos z).trans (if_pos z).symm
    · exact (if_neg z).trans ((hL1 i (by omega)).trans (if_neg z).symm)
  · by_cases z : n ≤ i ∧ i < n + 2
    · obtain ⟨x, hx, e⟩ := (show ∀ q, q < 2 → ∃ x, x < 128 ∧ (xfB 25).getD q 0 = nI x from fun q hq => ⟨((xfB 25).getD q 0).toNatClampNeg, (show ∀ q, q < 2 → ((xfB 25).getD q 0).toNatClampNeg < 128 by decide +kernel) q hq, (show ∀ q, q < 2 → (xfB 25).getD q 0 = nI ((xfB 25).getD q 0).toNatClampNeg by decide +kernel) q hq⟩) (i - n) (by omega)
      exact ⟨x, hx, (if_pos z).trans e⟩
    · obtain ⟨x, hx, e⟩ := hB1 i hi
      exact ⟨x, hx, (if_neg z).trans e⟩
  · rw [psT_1]
    show n + 2 ≤ cap1
    omega

end PP
