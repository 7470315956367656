/-! the builder where the law runs -/
def YbC (sb B0 : Nat) (h : XH) (n : Nat) (L : Nat → Int32) (cap v : Nat) (Bt : Nat → Int32) (k : Nat) : Prop :=
  (∃ mb, h.1 sb = some (.inr (10, [.ref v, .int 0, .int mb, .int (nI n)]))) ∧ IA h.1 4 v cap Bt ∧ (∀ j, j < n → Bt j = L j) ∧ (∀ j, j < cap → ∃ x, x < 128 ∧ Bt j = nI x) ∧ (n ≤ cap ∧ 16 ≤ cap ∧ (cap = 16 ∨ cap = 34 ∨ cap = 70 ∨ cap = 142)) ∧ ((sb + 1) ≤ v ∧ (v = (sb + 1) ∨ B0 ≤ v) ∧ v < 72 + k) ∧ h.2.1 = some k ∧ B0 ≤ 72 + k ∧ (sb + 2 ≤ B0 ∧ 72 ≤ sb)
def YbX (sb B0 : Nat) (h : XH) (n : Nat) (L : Nat → Int32) : Prop := ∃ cap v Bt k, YbC sb B0 h n L cap v Bt k
def Yw (sb B0 : Nat) (h h2 : XH) (x y : Nat) : Prop := (∀ c, c < B0 → c ≠ sb → c ≠ (sb + 1) → h2.1 c = h.1 c) ∧ h2.2.2.1 ≤ h.2.2.1 + x ∧ h2.2.2.2 ≤ h.2.2.2 + y
theorem Yw.rf {sb B0 : Nat} {h : XH} {x y : Nat} : Yw sb B0 h h x y := ⟨fun _ _ _ _ => rfl, by omega, by omega⟩
theorem Yw.tr {sb B0 : Nat} {h h2 h3 : XH} {x y z w : Nat} (e : Yw sb B0 h h2 x y) (k : Yw sb B0 h2 h3 z w) : Yw sb B0 h h3 (x + z) (y + w) := by
  obtain ⟨e1, e2, e3⟩ := e
  obtain ⟨k1, k2, k3⟩ := k
  exact ⟨fun c h1 h2 h3 => (k1 c h1 h2 h3).trans (e1 c h1 h2 h3), by omega, by omega⟩
theorem Yw.le {sb B0 : Nat} {h h2 : XH} {x y z w : Nat} (e : Yw sb B0 h h2 x y) (h1 : x ≤ z) (h3 : y ≤ w) : Yw sb B0 h h2 z w := by
  obtain ⟨e1, e2, e4⟩ := e
  exact ⟨e1, by omega, by omega⟩
theorem ycan_3s {h : XH} {w : Nat × (Nat × Nat)} {as : List Value} {b : Nat} {fs : List Value} {ci : Nat} (hn : Nat.ble (lg_sl (.ref b :: as)).length w.1 = true) (h2 : Nat.ble 100 w.2.2 = true) (h3 : Nat.beq (w.2.2 - 100) 200 = false) (hb : h.1 b = some (.inr (ci, fs))) (hw : Nat.beq ci (w.2.2 - 100) = true) : xcan 72 3 w h (.ref b :: as) = true := by
  unfold xcan
  rw [hn]
  show (true && (bif Nat.ble 100 w.2.2 then xrecv 72 (w.2.2 - 100) h (.ref b :: as) else true)) = true
  rw [h2]
  show xrecv 72 (w.2.2 - 100) h (.ref b :: as) = true
  unfold xrecv
  rw [h3]
  simp only [cond_false, hb, hw]
theorem YbX.o {sb B0 n : Nat} {L : Nat → Int32} {h : XH} (hX : YbX sb B0 h n L) : ∃ fs, h.1 sb = some (.inr (10, fs)) := by
  obtain ⟨cap, v, Bt, k, ⟨mb, o⟩, -⟩ := hX
  exact ⟨_, o⟩
theorem ycan_3b {sb B0 n : Nat} {L : Nat → Int32} {h : XH} {w : Nat × (Nat × Nat)} {as : List Value} (hX : YbX sb B0 h n L) (hn : Nat.ble (lg_sl (.ref sb :: as)).length w.1 = true) (h2 : Nat.ble 100 w.2.2 = true) (h3 : Nat.beq (w.2.2 - 100) 200 = false) (hw : Nat.beq 10 (w.2.2 - 100) = true) : xcan 72 3 w h (.ref sb :: as) = true := by
  obtain ⟨fs, o⟩ := hX.o
  exact ycan_3s hn h2 h3 o hw
theorem ys_newB {S : XSc} {d mid pc : Nat} {lv : XLv} {st : List Value} {h : XH} {Q : XO → XH → Prop} (pc2 : Nat) {k0 : XK} (hr : xT.1 mid pc = some (.newarray .byte, k0)) (hp : pc + 2 = pc2) {k N : Nat} {idx : Int32} (hidx : idx = nI N) (hk : h.2.1 = some k) (hN : N < 65536) (kk : ∀ f, IA f 4 (72 + k) N (fun _ => 0) → (∀ c, c ≠ 72 + k → f c = h.1 c) → yP S d mid pc2 lv (.ref (72 + k) :: st) (f, (some (k + 1), (h.2.2.1 + 1, h.2.2.2 + N))) Q) : yP S d mid pc lv (.int idx :: st) h Q := by
  subst hidx
  obtain ⟨i1, i2⟩ := xin_nI hN (Nat.le_refl _)
  refine ys_h pc2 hr rfl hp (st2 := .ref (72 + k) :: st) (h2 := (xup h.1 (72 + k) (.inl (4, (N, .inl (fun _ => 0)))), (some (k + 1), (h.2.2.1 + 1, h.2.2.2 + N)))) ?_ (kk _ ⟨_, xup_s, fun _ _ => rfl⟩ (fun c hc => xup_n hc))
  show xnewa 72 .byte h (.int (nI N) :: st) = _
  unfold xnewa
  simp only [hk, i1, i2, cond_true]
  rfl
theorem ys_cpyB {S : XSc} {d mid pc : Nat} {lv : XLv} {st : List Value} {h : XH} {Q : XO → XH → Prop} {e : XI} (pc2 : Nat) {a b n n1 : Nat} {v w : Nat → Int32} {z1 z2 z3 : Int32} (hr : xT.1 mid pc = some e) (hp : pc + 3 = pc2) (hc : xcall e (.int z3 :: .int z2 :: .ref b :: .int z1 :: .ref a :: st) = some (4, ([.ref a, .int z1, .ref b, .int z2, .int z3], st))) (he : e.2.1.1 = 0) (e1 : z1 = nI 0) (e2 : z2 = nI 0) (e3 : z3 = nI n) (ha : IA h.1 4 a n v) (hb : IA h.1 4 b n1 w) (hn : n ≤ n1) (hn1 : n1 ≤ 65536) (hf : ∀ j, j < n → fits .byte (.int (v j)) = true) (k : ∀ f, IA f 4 b n1 (fun j => if j < n then v j else w j) → Fr h.1 f b (b + 1) → yP S d mid pc2 lv st (f, h.2) Q) : yP S d mid pc lv (.int z3 :: .int z2 :: .ref b :: .int z1 :: .ref a :: st) h Q := by
  subst e1; subst e2; subst e3
  obtain ⟨F, g1, g2⟩ := ha
  obtain ⟨G, g3, g4⟩ := hb
  have hX : yX e.2.1.1 [.ref a, .int (nI 0), .ref b, .int (nI 0), .int (nI n)] h = some (none, (xup h.1 b (.inl (4, (n1, .inl (va_cpy F G 0 0 n)))), h.2)) := by
    rw [he]
    show yXcopy [.ref a, .int (nI 0), .ref b, .int (nI 0), .int (nI n)] h = _
    refine yXcopy_l ?_
    unfold xXcopy
    simp only [g1, g3]
    rw [show (nI 0).toNatClampNeg = 0 from nI_clamp (by omega), show (nI n).toNatClampNeg = n from nI_clamp (by omega)]
    rw [if_pos ⟨⟨trivial, Or.inr trivial⟩, ⟨nI_pos (by omega), nI_pos (by omega), nI_pos (by omega)⟩, ⟨by omega, by omega⟩, fun _ i hi => by rw [Nat.zero_add, g2 i hi]; exact hf i hi⟩]
  refine ys_ext pc2 hr hp hc hX rfl (k _ ⟨_, xup_s, fun j hj => ?_⟩ (Fr.up (Nat.le_refl _) (Nat.lt_succ_self _)))
  show va_cpy F G 0 0 n j = (if j < n then v j else w j)
  by_cases z : j < n
  · rw [pk_cpy_in (by omega) (by omega), show 0 + (j - 0) = j by omega, if_pos z]
    exact g2 j z
  · rw [if_neg z, show va_cpy F G 0 0 n j = G j from if_neg (by omega)]
    exact g4 j hj
theorem ey_311 {S : XSc} {d : Nat} {h : XH} {Q : XO → XH → Prop} {x y z : Nat} (hyz : y ≤ z) (hx : x ≤ 10000) (hz : z ≤ 10000) (h0 : 0 < x + z) (k9 : Q (.inl (some (.int (nI (x + z))))) h) : yP S d 311 0 [(0, .int (nI x)), (1, .int (nI y)), (2, .int (nI z))] [] h Q := by
  refine ys_f 1 r_311_0 rfl ?_
  refine ys_f 2 r_311_1 rfl ?_
  refine ys_f 3 r_311_2 rfl ?_
  refine ys_ext 6 r_311_3 rfl rfl rfl rfl ?_
  refine ys_f 7 r_311_6 rfl ?_
  refine ys_f 8 (lv2 := [(3, _), (0, _), (1, _), (2, _)]) r_311_7 rfl ?_
  refine ys_f 9 r_311_8 rfl ?_
  refine ys_f 10 r_311_9 rfl ?_
  refine ys_if 21 13 r_311_10 rfl (fun hc1 => ?_) (fun hc1 => ?_)
  · have hc1 := (nI_leN (nI_addE rfl (max_E (by omega) (by omega))) (nI_k 0) (by omega) (by omega)).mp hc1
    exfalso; omega
  · have hc1 := mt (nI_leN (nI_addE rfl (max_E (by omega) (by omega))) (nI_k 0) (by omega) (by omega)).mpr hc1
    refine ys_f 14 r_311_13 rfl ?_
    refine ys_f 16 r_311_14 rfl ?_
    refine ys_if 21 19 r_311_16 rfl (fun hc2 => ?_) (fun hc2 => ?_)
    · have hc2 := (nI_ltN (nI_k 2147483639) (nI_addE rfl (max_E (by omega) (by omega))) (by omega) (by omega)).mp hc2
      exfalso; omega
    · have hc2 := mt (nI_ltN (nI_k 2147483639) (nI_addE rfl (max_E (by omega) (by omega))) (by omega) (by omega)).mpr hc2
      refine ys_f 20 r_311_19 rfl ?_
      refine ys_ret r_311_20 rfl ?_
      exact xq_int k9 (by rw [max_E (by omega) (by omega), Nat.max_eq_right hyz]; exact nI_add _ _)

theorem ey_301 {S : XSc} {d : Nat} {h : XH} {Q : XO → XH → Prop} {sb B0 n cap v k : Nat} {L Bt : Nat → Int32} (hC : YbC sb B0 h n L cap v Bt k) {mn : Nat} (h1 : cap < mn) (h2 : mn ≤ 2 * cap + 2) (k9 : Q (.inl (some (.int (nI (2 * cap + 2))))) h) : yP S (d + 1) 301 0 [(0, .ref sb), (1, .int (nI mn))] [] h Q := by
  obtain ⟨⟨mb, o0⟩, r0, hL, hB, ⟨hn, h16, h220⟩, ⟨hv8, hvB, hvk⟩, hk, hBk, hB9⟩ := id hC
  refine ys_f 1 r_301_0 rfl ?_
  refine ys_get 4 r_301_1 rfl rfl (by first | assumption | exact xup_s | exact o0 | (refine (xup_n (by omega)).trans ?_; first | assumption | exact xup_s | exact o0) | (refine (xup_n (by omega)).trans ((xup_n (by omega)).trans ?_); first | assumption | exact xup_s | exact o0) | (refine (xup_n (by omega)).trans ((xup_n (by omega)).trans ((xup_n (by omega)).trans ?_)); first | assumption | exact xup_s | exact o0)) (by rfl) ?_
  refine ys_lenA 5 r_301_4 rfl r0 ?_
  refine ys_f 6 (lv2 := [(2, _), (0, _), (1, _)]) r_301_5 rfl ?_
  refine ys_f 7 r_301_6 rfl ?_
  refine ys_f 8 r_301_7 rfl ?_
  refine ys_get 11 r_301_8 rfl rfl (by first | assumption | exact xup_s | exact o0 | (refine (xup_n (by omega)).trans ?_; first | assumption | exact xup_s | exact o0) | (refine (xup_n (by omega)).trans ((xup_n (by omega)).trans ?_); first | assumption | exact xup_s | exact o0) | (refine (xup_n (by omega)).trans ((xup_n (by omega)).trans ((xup_n (by omega)).trans ?_)); first | assumption | exact xup_s | exact o0)) (by rfl) ?_
  refine ys_f 12 r_301_11 rfl ?_
  refine ys_f 13 (lv2 := [(3, _), (2, _), (0, _), (1, _)]) r_301_12 rfl ?_
  refine ys_f 14 r_301_13 rfl ?_
  refine ys_f 15 r_301_14 rfl ?_
  refine ys_f 16 r_301_15 rfl ?_
  refine ys_f 18 (lv2 := [(4, _), (3, _), (2, _), (0, _), (1, _)]) r_301_16 rfl ?_
  refine ys_f 19 r_301_18 rfl ?_
  refine ys_f 21 r_301_19 rfl ?_
  refine ys_f 22 r_301_21 rfl ?_
  refine ys_f 23 r_301_22 rfl ?_
  refine ys_f 24 r_301_23 rfl ?_
  refine ys_get 27 r_301_24 rfl rfl (by first | assumption | exact xup_s | exact o0 | (refine (xup_n (by omega)).trans ?_; first | assumption | exact xup_s | exact o0) | (refine (xup_n (by omega)).trans ((xup_n (by omega)).trans ?_); first | assumption | exact xup_s | exact o0) | (refine (xup_n (by omega)).trans ((xup_n (by omega)).trans ((xup_n (by omega)).trans ?_)); first | assumption | exact xup_s | exact o0)) (by rfl) ?_
  refine ys_f 28 r_301_27 rfl ?_
  refine ys_f 29 r_301_28 rfl ?_
  refine ys_call (lv2 := [(0, _), (1, _), (2, _)]) r_301_29 rfl rfl (by decide) (xcan_1 rfl) rfl (yP_lv [(0, .int (nI cap)), (1, .int (nI (mn - cap))), (2, .int (nI (cap + 2)))] rfl ⟨rfl, (congrArg (fun z => some (Value.int z)) (nI_subE (shl0 _) rfl (by omega))), (congrArg (fun z => some (Value.int z)) (nI_addE rfl (shl0 _))), trivial⟩ (ey_311 (x := cap) (y := mn - cap) (z := cap + 2) (by omega) (by omega) (by omega) (by omega) ?_))
  refine yK_v rfl ?_
  refine ys_f 34 (lv2 := [(5, _), (4, _), (3, _), (2, _), (0, _), (1, _)]) r_301_32 rfl ?_
  refine ys_f 36 r_301_34 rfl ?_
  refine ys_f 38 r_301_36 rfl ?_
  refine ys_if 41 51 r_301_38 rfl (fun hc1 => ?_) (fun hc1 => ?_)
  · have hc1 := (nI_eqN rfl (nI_k 2147483647) (by omega) (by omega)).mp hc1
    exfalso; omega
  · have hc1 := mt (nI_eqN rfl (nI_k 2147483647) (by omega) (by omega)).mpr hc1
    refine ys_f 53 r_301_51 rfl ?_
    refine ys_f 54 r_301_53 rfl ?_
    refine ys_get 57 r_301_54 rfl rfl (by first | assumption | exact xup_s | exact o0 | (refine (xup_n (by omega)).trans ?_; first | assumption | exact xup_s | exact o0) | (refine (xup_n (by omega)).trans ((xup_n (by omega)).trans ?_); first | assumption | exact xup_s | exact o0) | (refine (xup_n (by omega)).trans ((xup_n (by omega)).trans ((xup_n (by omega)).trans ?_)); first | assumption | exact xup_s | exact o0)) (by rfl) ?_
    refine ys_f 58 r_301_57 rfl ?_
    refine ys_ret r_301_58 rfl ?_
    exact xq_int k9 ((shr0 _).trans (congrArg nI (by omega)))

theorem ey_310 {S : XSc} {d : Nat} {h : XH} {Q : XO → XH → Prop} {v cap k N : Nat} {Bt : Nat → Int32} (r0 : IA h.1 4 v cap Bt) (hB : ∀ j, j < cap → ∃ x, x < 128 ∧ Bt j = nI x) (hv : 72 ≤ v) (hvk : v < 72 + k) (hk : h.2.1 = some k) (hc : cap < N) (hN : N ≤ 1000) (k9 : ∀ f, IA f 4 (72 + k) N (fun j => if j < cap then Bt j else 0) → (∀ c, c ≠ 72 + k → f c = h.1 c) → Q (.inl (some (.ref (72 + k)))) (f, (some (k + 1), (h.2.2.1 + 1, h.2.2.2 + N)))) : yP S d 310 0 [(0, .ref v), (1, .int (nI N))] [] h Q := by
  refine ys_f 1 r_310_0 rfl ?_
  refine ys_f 2 r_310_1 rfl ?_
  refine ys_lenA 3 r_310_2 rfl r0 ?_
  refine ys_if 6 14 r_310_3 rfl (fun hc1 => ?_) (fun hc1 => ?_)
  · have hc1 := (nI_eqN rfl rfl (by omega) (by omega)).mp hc1
    exfalso; omega
  · have hc1 := mt (nI_eqN rfl rfl (by omega) (by omega)).mpr hc1
    refine ys_f 15 r_310_14 rfl ?_
    refine ys_newB 17 r_310_15 rfl (N := N) rfl hk (by omega) (fun f1 a1 y1 => ?_)
    have r1 := r0.fr (y1 v (by omega))
    refine ys_f 18 (lv2 := [(2, _), (0, _), (1, _)]) r_310_17 rfl ?_
    refine ys_f 19 r_310_18 rfl ?_
    refine ys_f 20 r_310_19 rfl ?_
    refine ys_f 21 r_310_20 rfl ?_
    refine ys_f 22 r_310_21 rfl ?_
    refine ys_f 23 r_310_22 rfl ?_
    refine ys_lenA 24 r_310_23 rfl r1 ?_
    refine ys_f 25 r_310_24 rfl ?_
    refine ys_ext 28 r_310_25 rfl rfl rfl rfl ?_
    refine ys_cpyB 31 r_310_28 rfl rfl rfl (n := cap) rfl rfl (if_neg (mt (nI_ltN rfl rfl (by omega) (by omega)).mp (by omega))) r1 a1 (by omega) (by omega) (fun j hj => ?_) (fun f2 a2 y2 => ?_)
    · obtain ⟨x9, hx9, e9⟩ := hB j hj
      rw [e9]
      exact (byt_ok hx9).2.2.1
    refine ys_f 32 r_310_31 rfl ?_
    refine ys_ret r_310_32 rfl ?_
    exact k9 f2 a2 (fun c hc2 => (y2 c (by omega)).trans (y1 c hc2))

theorem ey_300 {S : XSc} {d : Nat} {h : XH} {Q : XO → XH → Prop} {sb B0 n cap v k : Nat} {L Bt : Nat → Int32} (hC : YbC sb B0 h n L cap v Bt k) {mn : Nat} (hmn : mn ≤ 106) (hmn2 : mn ≤ n + 7) (k9 : ∀ h2 cap2 v2 Bt2 k2, mn ≤ cap2 → YbC sb B0 h2 n L cap2 v2 Bt2 k2 → Yw sb B0 h h2 1 220 → Q (.inl none) h2) : yP S (d + 2) 300 0 [(0, .ref sb), (1, .int (nI mn))] [] h Q := by
  obtain ⟨⟨mb, o0⟩, r0, hL, hB, ⟨hn, h16, h220⟩, ⟨hv8, hvB, hvk⟩, hk, hBk, hB9⟩ := id hC
  refine ys_f 1 r_300_0 rfl ?_
  refine ys_get 4 r_300_1 rfl rfl (by first | assumption | exact xup_s | exact o0 | (refine (xup_n (by omega)).trans ?_; first | assumption | exact xup_s | exact o0) | (refine (xup_n (by omega)).trans ((xup_n (by omega)).trans ?_); first | assumption | exact xup_s | exact o0) | (refine (xup_n (by omega)).trans ((xup_n (by omega)).trans ((xup_n (by omega)).trans ?_)); first | assumption | exact xup_s | exact o0)) (by rfl) ?_
  refine ys_lenA 5 r_300_4 rfl r0 ?_
  refine ys_f 6 r_300_5 rfl ?_
  refine ys_get 9 r_300_6 rfl rfl (by first | assumption | exact xup_s | exact o0 | (refine (xup_n (by omega)).trans ?_; first | assumption | exact xup_s | exact o0) | (refine (xup_n (by omega)).trans ((xup_n (by omega)).trans ?_); first | assumption | exact xup_s | exact o0) | (refine (xup_n (by omega)).trans ((xup_n (by omega)).trans ((xup_n (by omega)).trans ?_)); first | assumption | exact xup_s | exact o0)) (by rfl) ?_
  refine ys_f 10 r_300_9 rfl ?_
  refine ys_f 11 (lv2 := [(2, _), (0, _), (1, _)]) r_300_10 rfl ?_
  refine ys_f 12 r_300_11 rfl ?_
  refine ys_f 13 r_300_12 rfl ?_
  refine ys_f 14 r_300_13 rfl ?_
  refine ys_if 38 17 r_300_14 rfl (fun hle => ?_) (fun hle => ?_)
  · have hle : nI mn - (nI cap >>> ((0 : Int32) &&& 31)) ≤ 0 := hle
    rw [shr0] at hle
    have hle := (sub_le0 (by omega) (by omega)).mp hle
    refine ys_ret r_300_38 rfl ?_
    first
      | exact k9 h cap v Bt k (by omega) hC Yw.rf
      | (exact k9 (f2, (some (k + 1), (h.2.2.1 + 1, h.2.2.2 + (2 * cap + 2)))) (2 * cap + 2) (72 + k) _ (k + 1) (by omega) ⟨⟨mb, x2⟩, a1.fr (y2 _ (by omega)), fun j hj => (if_pos (by omega)).trans (hL j hj), fun j hj => by
          by_cases z : j < cap
          · rw [if_pos z]; exact hB j z
          · rw [if_neg z]; exact ⟨0, by omega, rfl⟩, ⟨by omega, by omega, by omega⟩, ⟨by omega, Or.inr hBk, by omega⟩, rfl, by omega, hB9⟩ ⟨fun c c1 c2 c3 => (y2 c (by omega)).trans (y1 c (by omega)), by show h.2.2.1 + 1 ≤ _; omega, by show h.2.2.2 + (2 * cap + 2) ≤ _; omega⟩)
  · have hle : ¬ nI mn - (nI cap >>> ((0 : Int32) &&& 31)) ≤ 0 := hle
    rw [shr0] at hle
    have hle := mt (sub_le0 (by omega) (by omega)).mpr hle
    refine ys_f 18 r_300_17 rfl ?_
    refine ys_f 19 r_300_18 rfl ?_
    refine ys_get 22 r_300_19 rfl rfl (by first | assumption | exact xup_s | exact o0 | (refine (xup_n (by omega)).trans ?_; first | assumption | exact xup_s | exact o0) | (refine (xup_n (by omega)).trans ((xup_n (by omega)).trans ?_); first | assumption | exact xup_s | exact o0) | (refine (xup_n (by omega)).trans ((xup_n (by omega)).trans ((xup_n (by omega)).trans ?_)); first | assumption | exact xup_s | exact o0)) (by rfl) ?_
    refine ys_f 23 r_300_22 rfl ?_
    refine ys_f 24 r_300_23 rfl ?_
    refine ys_call (lv2 := [(0, _), (1, _)]) r_300_24 rfl rfl (by decide) (xcan_0 rfl rfl (by first | assumption | exact xup_s | exact o0 | (refine (xup_n (by omega)).trans ?_; first | assumption | exact xup_s | exact o0) | (refine (xup_n (by omega)).trans ((xup_n (by omega)).trans ?_); first | assumption | exact xup_s | exact o0) | (refine (xup_n (by omega)).trans ((xup_n (by omega)).trans ((xup_n (by omega)).trans ?_)); first | assumption | exact xup_s | exact o0)) (by rfl)) rfl (ey_301 hC (by omega) (by omega) ?_)
    refine yK_v rfl ?_
    refine ys_f 28 r_300_27 rfl ?_
    refine ys_get 31 r_300_28 rfl rfl (by first | assumption | exact xup_s | exact o0 | (refine (xup_n (by omega)).trans ?_; first | assumption | exact xup_s | exact o0) | (refine (xup_n (by omega)).trans ((xup_n (by omega)).trans ?_); first | assumption | exact xup_s | exact o0) | (refine (xup_n (by omega)).trans ((xup_n (by omega)).trans ((xup_n (by omega)).trans ?_)); first | assumption | exact xup_s | exact o0)) (by rfl) ?_
    refine ys_f 32 r_300_31 rfl ?_
    refine ys_call (lv2 := [(0, _), (1, _)]) r_300_32 rfl rfl (by decide) (xcan_1 rfl) rfl (yP_lv [(0, .ref v), (1, .int (nI (2 * cap + 2)))] rfl ⟨rfl, (congrArg (fun z => some (Value.int z)) (shl0 _)), trivial⟩ (ey_310 (N := 2 * cap + 2) r0 hB (by omega) hvk hk (by omega) (by omega) (fun f1 a1 y1 => ?_)))
    have o1 := (y1 sb (by omega)).trans o0
    refine yK_v rfl ?_
    refine ys_putC 38 r_300_35 rfl o1 (by rfl) (by rfl) (fun f2 x2 y2 => ?_)
    refine ys_ret r_300_38 rfl ?_
    first
      | exact k9 h cap v Bt k (by omega) hC Yw.rf
      | (exact k9 (f2, (some (k + 1), (h.2.2.1 + 1, h.2.2.2 + (2 * cap + 2)))) (2 * cap + 2) (72 + k) _ (k + 1) (by omega) ⟨⟨mb, x2⟩, a1.fr (y2 _ (by omega)), fun j hj => (if_pos (by omega)).trans (hL j hj), fun j hj => by
          by_cases z : j < cap
          · rw [if_pos z]; exact hB j z
          · rw [if_neg z]; exact ⟨0, by omega, rfl⟩, ⟨by omega, by omega, by omega⟩, ⟨by omega, Or.inr hBk, by omega⟩, rfl, by omega, hB9⟩ ⟨fun c c1 c2 c3 => (y2 c (by omega)).trans (y1 c (by omega)), by show h.2.2.1 + 1 ≤ _; omega, by show h.2.2.2 + (2 * cap + 2) ≤ _; omega⟩)

theorem ey_306 {sb : Nat} {S : XSc} {d : Nat} {h : XH} {Q : XO → XH → Prop} {v : Nat} {mb c : Int32} (o0 : h.1 sb = some (.inr (10, [.ref v, .int 0, .int mb, .int c]))) (k9 : Q (.inl (some (.int 1))) h) : yP S d 306 0 [(0, .ref sb)] [] h Q := by
  refine ys_gst 3 r_306_0 rfl ?_
  refine ys_f 6 r_306_3 rfl ?_
  refine ys_f 7 r_306_6 rfl ?_
  refine ys_get 10 r_306_7 rfl rfl (by first | assumption | exact xup_s | exact o0 | (refine (xup_n (by omega)).trans ?_; first | assumption | exact xup_s | exact o0) | (refine (xup_n (by omega)).trans ((xup_n (by omega)).trans ?_); first | assumption | exact xup_s | exact o0) | (refine (xup_n (by omega)).trans ((xup_n (by omega)).trans ((xup_n (by omega)).trans ?_)); first | assumption | exact xup_s | exact o0)) (by rfl) ?_
  refine ys_f 13 r_306_10 rfl ?_
  refine ys_f 14 r_306_13 rfl ?_
  refine ys_f 18 r_306_14 rfl ?_
  refine ys_ret r_306_18 rfl ?_
  exact k9

theorem ey_304 {S : XSc} {d : Nat} {h : XH} {Q : XO → XH → Prop} {sb B0 n : Nat} {L : Nat → Int32} (hX : YbX sb B0 h n L) (hn9 : n < 100) {x : Nat} (hx : x < 128) (k9 : ∀ h2, YbX sb B0 h2 (n + 1) (xw L n (nI x)) → Yw sb B0 h h2 1 220 → Q (.inl (some (.ref sb))) h2) : yP S (d + 3) 304 0 [(0, .ref sb), (1, .int (nI x))] [] h Q := by
  obtain ⟨cap, v, Bt, k, hC⟩ := hX
  obtain ⟨⟨mb, o0⟩, r0, hL, hB, ⟨hn, h16, h220⟩, ⟨hv8, hvB, hvk⟩, hk, hBk, hB9⟩ := id hC
  refine ys_f 1 r_304_0 rfl ?_
  refine ys_f 2 r_304_1 rfl ?_
  refine ys_get 5 r_304_2 rfl rfl o0 (by rfl) ?_
  refine ys_f 6 r_304_5 rfl ?_
  refine ys_f 7 r_304_6 rfl ?_
  refine ys_call (lv2 := [(0, _), (1, _)]) r_304_7 rfl rfl (by decide) (xcan_0 rfl rfl o0 (by rfl)) rfl (yP_lv [(0, .ref sb), (1, .int (nI (n + 1)))] rfl ⟨rfl, (congrArg (fun z => some (Value.int z)) (nI_addE rfl (nI_k 1))), trivial⟩ (ey_300 hC (mn := n + 1) (by omega) (by omega) (fun h1 cap1 v1 Bt1 k1 hm1 hC1 w1 => ?_)))
  obtain ⟨⟨mb1, o1⟩, r1, hL1, hB1, ⟨hn1, h161, h221⟩, ⟨hv81, hvB1, hvk1⟩, hk1, hBk1, hB91⟩ := id hC1
  refine yK_0 rfl ?_
  refine ys_f 11 r_304_10 rfl ?_
  refine ys_call (lv2 := [(0, _)]) r_304_11 rfl rfl (by decide) (xcan_0 rfl rfl o1 (by rfl)) rfl (ey_306 o1 ?_)
  refine yK_v rfl ?_
  refine ys_f 17 r_304_14 rfl ?_
  refine ys_f 18 r_304_17 rfl ?_
  refine ys_call (lv2 := [(0, _)]) r_304_18 rfl rfl (by decide) (xcan_1 rfl) rfl ?_
  refine ys_f 1 r_309_0 rfl ?_
  refine ys_f 4 r_309_1 rfl ?_
  refine ys_if 11 7 r_309_4 rfl (fun hc2 => ?_) (fun hc2 => ?_)
  · have hc2 := (nI_ltN (nI_k 255) rfl (by omega) (by omega)).mp hc2
    exfalso; omega
  · have hc2 := mt (nI_ltN (nI_k 255) rfl (by omega) (by omega)).mpr hc2
    refine ys_f 8 r_309_7 rfl ?_
    refine ys_f 12 r_309_8 rfl ?_
    refine ys_ret r_309_12 rfl ?_
    refine yK_v rfl ?_
    refine ys_f 24 r_304_21 rfl ?_
    refine ys_f 25 r_304_24 rfl ?_
    refine ys_get 28 r_304_25 rfl rfl o1 (by rfl) ?_
    refine ys_f 29 r_304_28 rfl ?_
    refine ys_f 30 r_304_29 rfl ?_
    refine ys_get 33 r_304_30 rfl rfl o1 (by rfl) ?_
    refine ys_f 34 r_304_33 rfl ?_
    refine ys_f 35 r_304_34 rfl ?_
    refine ys_f 36 r_304_35 rfl ?_
    refine ys_putC 39 r_304_36 rfl o1 (by rfl) (by rfl) (fun f2 x2 y2 => ?_)
    refine ys_f 40 r_304_39 rfl ?_
    refine ys_f 41 r_304_40 rfl ?_
    refine ys_astB 42 r_304_41 (fun _ _ => rfl) rfl rfl rfl (j := n) rfl (r1.fr (y2 v1 (by omega))) (by omega) ((congrArg (vp_nar .byte) (byt_ok hx).2.1).trans (byt_ok hx).1) (fun f3 x3 y3 => ?_)
    refine ys_f 75 r_304_42 rfl ?_
    refine ys_f 76 r_304_75 rfl ?_
    refine ys_ret r_304_76 rfl ?_
    refine k9 (f3, h1.2) ⟨cap1, v1, _, k1, ⟨mb1, (y3 sb (by omega)).trans (x2.trans (by rw [nI_succ]; rfl))⟩, x3, fun j hj => ?_, fun j hj => ?_, ⟨by omega, h161, h221⟩, ⟨hv81, hvB1, hvk1⟩, hk1, hBk1, hB91⟩ ⟨fun c c1 c2 c3 => (y3 c (by omega)).trans ((y2 c (by omega)).trans (w1.1 c c1 c2 c3)), w1.2.1, w1.2.2⟩
    · by_cases z : j = n
      · rw [z, xw_s, xw_s]
      · rw [xw_n z, xw_n z]; exact hL1 j (by omega)
    · by_cases z : j = n
      · rw [z, xw_s]; exact ⟨x, hx, rfl⟩
      · rw [xw_n z]; exact hB1 j hj

theorem ey_293 {S : XSc} {d : Nat} {h : XH} {Q : XO → XH → Prop} {sb B0 n : Nat} {L : Nat → Int32} (hX : YbX sb B0 h n L) (hn9 : n < 100) {x : Nat} (hx : x < 128) (k9 : ∀ h2, YbX sb B0 h2 (psL (n, L) (nI x)).1 (psL (n, L) (nI x)).2 → Yw sb B0 h h2 1 220 → Q (.inl (some (.ref sb))) h2) : yP S (d + 4) 293 0 [(0, .ref sb), (1, .int (nI x))] [] h Q := by
  refine ys_f 1 r_293_0 rfl ?_
  refine ys_f 2 r_293_1 rfl ?_
  refine ys_call (lv2 := [(0, _), (1, _)]) r_293_2 rfl rfl (by decide) (ycan_3b hX rfl rfl rfl rfl) rfl (ey_304 hX hn9 hx (fun h1 hX1 w1 => ?_))
  refine yK_v rfl ?_
  refine ys_f 6 r_293_5 rfl ?_
  refine ys_f 7 r_293_6 rfl ?_
  refine ys_ret r_293_7 rfl ?_
  exact k9 h1 hX1 w1

theorem ey_308 {S : XSc} {d : Nat} {h : XH} {Q : XO → XH → Prop} {v : Nat} (hv : v < 1000) (k9 : Q (.inl (some (.int (nI (ndg v))))) h) : yP S d 308 0 [(0, .int (nI v))] [] h Q := by
  have t9 := sz9 hv
  refine ys_f 1 r_308_0 rfl ?_
  refine ys_f 2 (lv2 := [(1, _), (0, _)]) r_308_1 rfl ?_
  refine ys_f 3 r_308_2 rfl ?_
  refine ys_if 11 6 r_308_3 rfl (fun hc1 => ?_) (fun hc1 => ?_)
  · have hc1 := (nI_ltN rfl (nI_k 0) (by omega) (by omega)).mp hc1
    exfalso; omega
  · have hc1 := mt (nI_ltN rfl (nI_k 0) (by omega) (by omega)).mpr hc1
    refine ys_f 7 r_308_6 rfl ?_
    refine ys_f 8 (lv2 := [(1, _), (0, _)]) r_308_7 rfl ?_
    refine ys_f 9 r_308_8 rfl ?_
    refine ys_f 10 r_308_9 rfl ?_
    refine ys_f 11 (lv2 := [(0, _), (1, _)]) r_308_10 rfl ?_
    refine ys_f 13 r_308_11 rfl ?_
    refine ys_f 14 (lv2 := [(2, _), (0, _), (1, _)]) r_308_13 rfl ?_
    refine ys_f 15 r_308_14 rfl ?_
    refine ys_f 16 (lv2 := [(3, _), (2, _), (0, _), (1, _)]) r_308_15 rfl ?_
    refine ys_f 17 r_308_16 rfl ?_
    refine ys_f 19 r_308_17 rfl ?_
    refine ys_f 22 r_308_19 rfl ?_
    refine ys_f 23 r_308_22 rfl ?_
    refine ys_f 24 r_308_23 rfl ?_
    refine ys_if 31 27 r_308_24 rfl (fun hc3 => ?_) (fun hc3 => ?_)
    · refine ys_f 33 r_308_31 rfl ?_
      refine ys_f 34 r_308_33 rfl ?_
      refine ys_f 35 r_308_34 rfl ?_
      refine ys_f 36 (lv2 := [(2, _), (3, _), (0, _), (1, _)]) r_308_35 rfl ?_
      refine ys_f 39 (lv2 := [(3, _), (2, _), (0, _), (1, _)]) r_308_36 rfl ?_
      refine ys_f 16 r_308_39 rfl ?_
      refine ys_f 17 r_308_16 rfl ?_
      refine ys_f 19 r_308_17 rfl ?_
      refine ys_f 22 r_308_19 rfl ?_
      refine ys_f 23 r_308_22 rfl ?_
      refine ys_f 24 r_308_23 rfl ?_
      refine ys_if 31 27 r_308_24 rfl (fun hc5 => ?_) (fun hc5 => ?_)
      · refine ys_f 33 r_308_31 rfl ?_
        refine ys_f 34 r_308_33 rfl ?_
        refine ys_f 35 r_308_34 rfl ?_
        refine ys_f 36 (lv2 := [(2, _), (3, _), (0, _), (1, _)]) r_308_35 rfl ?_
        refine ys_f 39 (lv2 := [(3, _), (2, _), (0, _), (1, _)]) r_308_36 rfl ?_
        refine ys_f 16 r_308_39 rfl ?_
        refine ys_f 17 r_308_16 rfl ?_
        refine ys_f 19 r_308_17 rfl ?_
        refine ys_f 22 r_308_19 rfl ?_
        refine ys_f 23 r_308_22 rfl ?_
        refine ys_f 24 r_308_23 rfl ?_
        refine ys_if 31 27 r_308_24 rfl (fun hc7 => ?_) (fun hc7 => ?_)
        · exfalso
          have := t9.2.2.1.mp hc7
          omega
        · refine ys_f 28 r_308_27 rfl ?_
          refine ys_f 29 r_308_28 rfl ?_
          refine ys_f 30 r_308_29 rfl ?_
          refine ys_ret r_308_30 rfl ?_
          first
            | exact xq_int k9 (by rw [show ndg v = 3 from by have a1 := t9.2.1.mp hc5; have a2 := mt t9.2.2.1.mpr hc7; unfold ndg; (repeat' split) <;> omega]; rfl)
            | exact xq_int k9 (by rw [show ndg v = 2 from by have a1 := t9.1.mp hc3; have a2 := mt t9.2.1.mpr hc5; unfold ndg; (repeat' split) <;> omega]; rfl)
            | exact xq_int k9 (by rw [show ndg v = 1 from by have a2 := mt t9.1.mpr hc3; unfold ndg; (repeat' split) <;> omega]; rfl)
      · refine ys_f 28 r_308_27 rfl ?_
        refine ys_f 29 r_308_28 rfl ?_
        refine ys_f 30 r_308_29 rfl ?_
        refine ys_ret r_308_30 rfl ?_
        first
          | exact xq_int k9 (by rw [show ndg v = 3 from by have a1 := t9.2.1.mp hc5; have a2 := mt t9.2.2.1.mpr hc7; unfold ndg; (repeat' split) <;> omega]; rfl)
          | exact xq_int k9 (by rw [show ndg v = 2 from by have a1 := t9.1.mp hc3; have a2 := mt t9.2.1.mpr hc5; unfold ndg; (repeat' split) <;> omega]; rfl)
          | exact xq_int k9 (by rw [show ndg v = 1 from by have a2 := mt t9.1.mpr hc3; unfold ndg; (repeat' split) <;> omega]; rfl)
    · refine ys_f 28 r_308_27 rfl ?_
      refine ys_f 29 r_308_28 rfl ?_
      refine ys_f 30 r_308_29 rfl ?_
      refine ys_ret r_308_30 rfl ?_
      first
        | exact xq_int k9 (by rw [show ndg v = 3 from by have a1 := t9.2.1.mp hc5; have a2 := mt t9.2.2.1.mpr hc7; unfold ndg; (repeat' split) <;> omega]; rfl)
        | exact xq_int k9 (by rw [show ndg v = 2 from by have a1 := t9.1.mp hc3; have a2 := mt t9.2.1.mpr hc5; unfold ndg; (repeat' split) <;> omega]; rfl)
        | exact xq_int k9 (by rw [show ndg v = 1 from by have a2 := mt t9.1.mpr hc3; unfold ndg; (repeat' split) <;> omega]; rfl)

theorem myl_307 {S : XSc} {d : Nat} {h : XH} {Q : XO → XH → Prop} {u p w cap : Nat} {Bt : Nat → Int32} (hu : u < 100) (hp : 2 ≤ p ∨ (1 ≤ p ∧ u < 10)) (hpc : p ≤ cap) (hcap : cap ≤ 1000) (r0 : IA h.1 4 w cap Bt) (h32 : 72 ≤ w) (k1 : u < 10 → ∀ f, IA f 4 w cap (xw Bt (p - 1) (nI (48 + u % 10))) → Fr h.1 f w (w + 1) → Q (.inl (some (.int (nI (p - 1))))) (f, h.2)) (k2 : 10 ≤ u → ∀ f, IA f 4 w cap (xw (xw Bt (p - 1) (nI (48 + u % 10))) (p - 1 - 1) (nI (48 + u / 10))) → Fr h.1 f w (w + 1) → Q (.inl (some (.int (nI (p - 1 - 1))))) (f, h.2)) : yP S d 307 72 [(5, .int (nI p)), (0, .int (-nI u)), (2, .ref w), (6, .int 0)] [] h Q := by
  have t9 := sz9 (v := u) (by omega)
  have d9 := dO_ok hu
  refine ys_f 73 r_307_72 rfl ?_
  refine ys_f 76 (lv2 := [(5, _), (0, _), (2, _), (6, _)]) r_307_73 rfl ?_
  refine ys_f 78 r_307_76 rfl ?_
  refine ys_gst 81 r_307_78 rfl ?_
  refine ys_f 82 r_307_81 rfl ?_
  refine ys_f 83 r_307_82 rfl ?_
  refine ys_ald 84 5 r_307_83 (fun _ _ => rfl) rfl rfl rfl (j := u) Int32.neg_neg (yarr_r rfl rfl) rfl (by exact hu) (by decide) rfl ?_
  refine ys_astB 85 r_307_84 (fun _ _ => rfl) rfl rfl rfl (j := (p - 1)) (nI_decE rfl 1 (by omega)) r0 (by omega) d9.1 (fun f1 r1 y1 => ?_)
  refine ys_f 86 r_307_85 rfl ?_
  refine ys_f 88 r_307_86 rfl ?_
  refine ys_if 104 91 r_307_88 rfl (fun hge => ?_) (fun hge => ?_)
  · have hge := t9.2.2.2.2.2.2.2.mp hge
    refine ys_f 106 r_307_104 rfl ?_
    refine ys_f 118 r_307_106 rfl ?_
    refine ys_f 120 r_307_118 rfl ?_
    refine ys_ret r_307_120 rfl ?_
    first
      | exact xq_int (k2 (by omega) f2 r2 (y1.tr y2)) (nI_decE (nI_decE rfl 1 (by omega)) 1 (by omega))
      | exact xq_int (k1 (by omega) f1 r1 y1) (nI_decE rfl 1 (by omega))
  · have hge := mt t9.2.2.2.2.2.2.2.mpr hge
    refine ys_f 92 r_307_91 rfl ?_
    refine ys_f 95 (lv2 := [(5, _), (0, _), (2, _), (6, _)]) r_307_92 rfl ?_
    refine ys_f 97 r_307_95 rfl ?_
    refine ys_gst 100 r_307_97 rfl ?_
    refine ys_f 101 r_307_100 rfl ?_
    refine ys_f 102 r_307_101 rfl ?_
    refine ys_ald 103 5 r_307_102 (fun _ _ => rfl) rfl rfl rfl (j := u) Int32.neg_neg (yarr_r rfl rfl) rfl (by exact hu) (by decide) rfl ?_
    refine ys_astB 104 r_307_103 (fun _ _ => rfl) rfl rfl rfl (j := ((p - 1) - 1)) (nI_decE (nI_decE rfl 1 (by omega)) 1 (by omega)) r1 (by omega) d9.2 (fun f2 r2 y2 => ?_)
    refine ys_f 106 r_307_104 rfl ?_
    refine ys_f 118 r_307_106 rfl ?_
    refine ys_f 120 r_307_118 rfl ?_
    refine ys_ret r_307_120 rfl ?_
    first
      | exact xq_int (k2 (by omega) f2 r2 (y1.tr y2)) (nI_decE (nI_decE rfl 1 (by omega)) 1 (by omega))
      | exact xq_int (k1 (by omega) f1 r1 y1) (nI_decE rfl 1 (by omega))

theorem ey_307 {S : XSc} {d : Nat} {h : XH} {Q : XO → XH → Prop} {v n w cap : Nat} {Bt : Nat → Int32} (hv : v < 1000) (hpc : n + ndg v ≤ cap) (hcap : cap ≤ 1000) (r0 : IA h.1 4 w cap Bt) (h32 : 72 ≤ w) (kk : ∀ f Bt2 (x : Int32), IA f 4 w cap Bt2 → (∀ L : Nat → Int32, (∀ j, j < n → Bt j = L j) → ∀ j, j < n + ndg v → Bt2 j = (wrN v (n, L)).2 j) → ((∀ j, j < cap → ∃ x, x < 128 ∧ Bt j = nI x) → ∀ j, j < cap → ∃ x, x < 128 ∧ Bt2 j = nI x) → Fr h.1 f w (w + 1) → Q (.inl (some (.int x))) (f, h.2)) : yP S d 307 0 [(0, .int (nI v)), (1, .int (nI (n + ndg v))), (2, .ref w)] [] h Q := by
  have t9 := sz9 hv
  have d9 := dO_ok (j := v % 100) (by omega)
  have n9 : (v < 10 ∧ ndg v = 1) ∨ (10 ≤ v ∧ v < 100 ∧ ndg v = 2) ∨ (100 ≤ v ∧ ndg v = 3) := by
    unfold ndg
    (repeat' split) <;> omega
  refine ys_f 1 r_307_0 rfl ?_
  refine ys_f 3 (lv2 := [(5, _), (0, _), (1, _), (2, _)]) r_307_1 rfl ?_
  refine ys_f 4 r_307_3 rfl ?_
  refine ys_if 11 7 r_307_4 rfl (fun hc1 => ?_) (fun hc1 => ?_)
  · have hc1 := (nI_leN (nI_k 0) rfl (by omega) (by omega)).mp hc1
    refine ys_f 12 r_307_11 rfl ?_
    refine ys_f 14 (lv2 := [(6, _), (5, _), (0, _), (1, _), (2, _)]) r_307_12 rfl ?_
    refine ys_f 16 r_307_14 rfl ?_
    refine ys_f 19 r_307_16 rfl ?_
    refine ys_f 20 r_307_19 rfl ?_
    refine ys_f 21 r_307_20 rfl ?_
    refine ys_f 22 (lv2 := [(0, _), (6, _), (5, _), (1, _), (2, _)]) r_307_21 rfl ?_
    refine ys_f 23 r_307_22 rfl ?_
    refine ys_f 25 r_307_23 rfl ?_
    refine ys_if 72 28 r_307_25 rfl (fun hg => ?_) (fun hg => ?_)
    · try have hg := t9.2.2.2.1.mp hg
      exact yP_lv [(5, .int (nI (n + ndg v))), (0, .int (-nI v)), (2, .ref w), (6, .int 0)] rfl ⟨rfl, rfl, rfl, rfl, trivial⟩ (myl_307 (h := h) (by omega) (by omega) (by omega) hcap r0 h32 (fun hu f3 r3 y3 => kk f3 _ _ r3 (fun L hL => wr_1 (by omega) hL) (fun hB => xw_B hB (by omega)) y3) (fun hu f3 r3 y3 => kk f3 _ _ r3 (fun L hL => wr_2 (by omega) (by omega) hL) (fun hB => xw_B (xw_B hB (by omega)) (by omega)) y3))
    · try have hg := mt t9.2.2.2.1.mpr hg
      refine ys_f 29 r_307_28 rfl ?_
      refine ys_f 31 r_307_29 rfl ?_
      refine ys_idiv 32 r_307_31 rfl (by decide) ?_
      refine ys_f 33 (lv2 := [(3, _), (0, _), (6, _), (5, _), (1, _), (2, _)]) r_307_32 rfl ?_
      refine ys_f 34 r_307_33 rfl ?_
      refine ys_f 36 r_307_34 rfl ?_
      refine ys_f 37 r_307_36 rfl ?_
      refine ys_f 38 r_307_37 rfl ?_
      refine ys_f 39 r_307_38 rfl ?_
      refine ys_f 41 (lv2 := [(4, _), (3, _), (0, _), (6, _), (5, _), (1, _), (2, _)]) r_307_39 rfl ?_
      refine ys_f 42 r_307_41 rfl ?_
      refine ys_f 43 (lv2 := [(0, _), (4, _), (3, _), (6, _), (5, _), (1, _), (2, _)]) r_307_42 rfl ?_
      refine ys_f 44 r_307_43 rfl ?_
      refine ys_f 47 (lv2 := [(5, _), (0, _), (4, _), (3, _), (6, _), (1, _), (2, _)]) r_307_44 rfl ?_
      refine ys_f 49 r_307_47 rfl ?_
      refine ys_gst 52 r_307_49 rfl ?_
      refine ys_f 54 r_307_52 rfl ?_
      refine ys_ald 55 5 r_307_54 (fun _ _ => rfl) rfl rfl rfl (j := (v % 100)) t9.2.2.2.2.2.1 (yarr_r rfl rfl) rfl (by show v % 100 < 100; omega) (by decide) rfl ?_
      refine ys_astB 56 r_307_55 (fun _ _ => rfl) rfl rfl rfl (j := ((n + ndg v) - 1)) (nI_decE rfl 1 (by omega)) r0 (by omega) d9.1 (fun f1 r1 y1 => ?_)
      refine ys_f 57 r_307_56 rfl ?_
      refine ys_f 60 (lv2 := [(5, _), (0, _), (4, _), (3, _), (6, _), (1, _), (2, _)]) r_307_57 rfl ?_
      refine ys_f 62 r_307_60 rfl ?_
      refine ys_gst 65 r_307_62 rfl ?_
      refine ys_f 67 r_307_65 rfl ?_
      refine ys_ald 68 5 r_307_67 (fun _ _ => rfl) rfl rfl rfl (j := (v % 100)) t9.2.2.2.2.2.1 (yarr_r rfl rfl) rfl (by show v % 100 < 100; omega) (by decide) rfl ?_
      refine ys_astB 69 r_307_68 (fun _ _ => rfl) rfl rfl rfl (j := (((n + ndg v) - 1) - 1)) (nI_decE (nI_decE rfl 1 (by omega)) 1 (by omega)) r1 (by omega) d9.2 (fun f2 r2 y2 => ?_)
      refine ys_f 22 r_307_69 rfl ?_
      refine ys_f 23 r_307_22 rfl ?_
      refine ys_f 25 r_307_23 rfl ?_
      refine ys_if 72 28 r_307_25 rfl (fun hg => ?_) (fun hg => ?_)
      · try have hg := t9.2.2.2.1.mp hg
        exact yP_lv [(5, .int (nI (n + ndg v - 1 - 1))), (0, .int (-nI (v / 100))), (2, .ref w), (6, .int 0)] rfl ⟨(congrArg (fun z => some (Value.int z)) (nI_decE (nI_decE rfl 1 (by omega)) 1 (by omega))), (congrArg (fun z => some (Value.int z)) t9.2.2.2.2.1), rfl, rfl, trivial⟩ (myl_307 (h := (f2, h.2)) (by omega) (Or.inr ⟨by omega, by omega⟩) (by omega) hcap r2 h32 (fun hu f3 r3 y3 => kk f3 _ _ r3 (fun L hL => wr_3 (by omega) hL) (fun hB => xw_B (xw_B (xw_B hB (by omega)) (by omega)) (by omega)) ((y1.tr y2).tr y3)) (fun hu => by omega))
      · try have hg := mt t9.2.2.2.1.mpr hg
        exact absurd t9.2.2.2.2.2.2.1 (by assumption)
  · have hc1 := mt (nI_leN (nI_k 0) rfl (by omega) (by omega)).mpr hc1
    exfalso; omega

theorem ey_305 {S : XSc} {d : Nat} {h : XH} {Q : XO → XH → Prop} {sb B0 n : Nat} {L : Nat → Int32} (hX : YbX sb B0 h n L) (hn9 : n + 4 ≤ 100) {x : Nat} (hx : x < 1000) (k9 : ∀ h2, YbX sb B0 h2 (wrN x (n, L)).1 (wrN x (n, L)).2 → Yw sb B0 h h2 1 220 → Q (.inl (some (.ref sb))) h2) : yP S (d + 3) 305 0 [(0, .ref sb), (1, .int (nI x))] [] h Q := by
  obtain ⟨cap, v, Bt, k, hC⟩ := hX
  obtain ⟨⟨mb, o0⟩, r0, hL, hB, ⟨hn, h16, h220⟩, ⟨hv8, hvB, hvk⟩, hk, hBk, hB9⟩ := id hC
  have g4 := ndg_4 x
  refine ys_f 1 r_305_0 rfl ?_
  refine ys_get 4 r_305_1 rfl rfl o0 (by rfl) ?_
  refine ys_f 5 (lv2 := [(2, _), (0, _), (1, _)]) r_305_4 rfl ?_
  refine ys_f 6 r_305_5 rfl ?_
  refine ys_f 7 r_305_6 rfl ?_
  refine ys_call (lv2 := [(0, _)]) r_305_7 rfl rfl (by decide) (xcan_1 rfl) rfl (ey_308 hx ?_)
  refine yK_v rfl ?_
  refine ys_f 11 r_305_10 rfl ?_
  refine ys_f 12 (lv2 := [(3, _), (2, _), (0, _), (1, _)]) r_305_11 rfl ?_
  refine ys_f 13 r_305_12 rfl ?_
  refine ys_f 14 r_305_13 rfl ?_
  refine ys_call (lv2 := [(0, _), (1, _)]) r_305_14 rfl rfl (by decide) (xcan_0 rfl rfl o0 (by rfl)) rfl (yP_lv [(0, .ref sb), (1, .int (nI (n + ndg x)))] rfl ⟨rfl, (congrArg (fun z => some (Value.int z)) (nI_addE rfl rfl)), trivial⟩ (ey_300 hC (mn := n + ndg x) (by omega) (by omega) (fun h1 cap1 v1 Bt1 k1 hm1 hC1 w1 => ?_)))
  obtain ⟨⟨mb1, o1⟩, r1, hL1, hB1, ⟨hn1, h161, h221⟩, ⟨hv81, hvB1, hvk1⟩, hk1, hBk1, hB91⟩ := id hC1
  refine yK_0 rfl ?_
  refine ys_f 18 r_305_17 rfl ?_
  refine ys_call (lv2 := [(0, _)]) r_305_18 rfl rfl (by decide) (xcan_0 rfl rfl o1 (by rfl)) rfl (ey_306 o1 ?_)
  refine yK_v rfl ?_
  refine ys_f 24 r_305_21 rfl ?_
  refine ys_f 25 r_305_24 rfl ?_
  refine ys_f 26 r_305_25 rfl ?_
  refine ys_f 27 r_305_26 rfl ?_
  refine ys_get 30 r_305_27 rfl rfl o1 (by rfl) ?_
  refine ys_call (lv2 := [(0, _), (1, _), (2, _)]) r_305_30 rfl rfl (by decide) (xcan_1 rfl) rfl (yP_lv [(0, .int (nI x)), (1, .int (nI (n + ndg x))), (2, .ref v1)] rfl ⟨rfl, (congrArg (fun z => some (Value.int z)) (nI_addE rfl rfl)), rfl, trivial⟩ (ey_307 (v := x) (n := n) hx hm1 (by omega) r1 (by omega) (fun f2 Bt2 z2 r2 e2 b2 y2 => ?_)))
  have o2 := (y2 sb (by omega)).trans o1
  refine yK_v rfl ?_
  refine ys_f 34 r_305_33 rfl ?_
  refine ys_f 48 r_305_34 rfl ?_
  refine ys_f 49 r_305_48 rfl ?_
  refine ys_f 50 r_305_49 rfl ?_
  refine ys_putC 53 r_305_50 rfl o2 (by rfl) (by rfl) (fun f3 x3 y3 => ?_)
  refine ys_f 54 r_305_53 rfl ?_
  refine ys_ret r_305_54 rfl ?_
  have ew : (wrN x (n, L)).1 = n + ndg x := wrD_1
  refine k9 (f3, h1.2) ⟨cap1, v1, Bt2, k1, ⟨mb1, by rw [ew]; exact x3.trans (by rw [← nI_add]; rfl)⟩, r2.fr (y3 _ (by omega)), fun j hj => e2 L hL1 j (by rw [← ew]; exact hj), b2 hB1, ⟨by rw [ew]; exact hm1, h161, h221⟩, ⟨hv81, hvB1, hvk1⟩, hk1, hBk1, hB91⟩ ⟨fun c c1 c2 c3 => (y3 c (by omega)).trans ((y2 c (by omega)).trans (w1.1 c c1 c2 c3)), w1.2.1, w1.2.2⟩

theorem ey_294 {S : XSc} {d : Nat} {h : XH} {Q : XO → XH → Prop} {sb B0 n : Nat} {L : Nat → Int32} (hX : YbX sb B0 h n L) (hn9 : n + 4 ≤ 100) {x : Nat} (hx : x < 1000) (k9 : ∀ h2, YbX sb B0 h2 (wrN x (n, L)).1 (wrN x (n, L)).2 → Yw sb B0 h h2 1 220 → Q (.inl (some (.ref sb))) h2) : yP S (d + 4) 294 0 [(0, .ref sb), (1, .int (nI x))] [] h Q := by
  refine ys_f 1 r_294_0 rfl ?_
  refine ys_f 2 r_294_1 rfl ?_
  refine ys_call (lv2 := [(0, _), (1, _)]) r_294_2 rfl rfl (by decide) (ycan_3b hX rfl rfl rfl rfl) rfl (ey_305 hX hn9 hx (fun h1 hX1 w1 => ?_))
  refine yK_v rfl ?_
  refine ys_f 6 r_294_5 rfl ?_
  refine ys_f 7 r_294_6 rfl ?_
  refine ys_ret r_294_7 rfl ?_
  exact k9 h1 hX1 w1

theorem ey_297 {S : XSc} {d : Nat} {h : XH} {Q : XO → XH → Prop} {sb B0 n : Nat} {L : Nat → Int32} (hX : YbX sb B0 h n L) (k9 : Q (.inl (some (.int (nI n)))) h) : yP S (d + 1) 297 0 [(0, .ref sb)] [] h Q := by
  have hX2 := hX
  obtain ⟨cap, v, Bt, k, hC⟩ := hX
  obtain ⟨⟨mb, o0⟩, r0, hL, hB, ⟨hn, h16, h220⟩, ⟨hv8, hvB, hvk⟩, hk, hBk, hB9⟩ := id hC
  refine ys_f 1 r_297_0 rfl ?_
  refine ys_call (lv2 := [(0, _)]) r_297_1 rfl rfl (by decide) (ycan_3b hX2 rfl rfl rfl rfl) rfl ?_
  refine ys_f 1 r_299_0 rfl ?_
  refine ys_get 4 r_299_1 rfl rfl (by first | assumption | exact xup_s | exact o0 | (refine (xup_n (by omega)).trans ?_; first | assumption | exact xup_s | exact o0) | (refine (xup_n (by omega)).trans ((xup_n (by omega)).trans ?_); first | assumption | exact xup_s | exact o0) | (refine (xup_n (by omega)).trans ((xup_n (by omega)).trans ((xup_n (by omega)).trans ?_)); first | assumption | exact xup_s | exact o0)) (by rfl) ?_
  refine ys_ret r_299_4 rfl ?_
  refine yK_v rfl ?_
  refine ys_ret r_297_4 rfl ?_
  exact k9

theorem ey_302 {S : XSc} {d : Nat} {h : XH} {Q : XO → XH → Prop} {sb B0 n : Nat} {L : Nat → Int32} (hX : YbX sb B0 h n L) (hn9 : n ≤ 100) (k9 : ∀ h2, YbX sb B0 h2 0 L → Yw sb B0 h h2 1 220 → Q (.inl none) h2) : yP S (d + 3) 302 0 [(0, .ref sb), (1, .int 0)] [] h Q := by
  obtain ⟨cap, v, Bt, k, hC⟩ := hX
  obtain ⟨⟨mb, o0⟩, r0, hL, hB, ⟨hn, h16, h220⟩, ⟨hv8, hvB, hvk⟩, hk, hBk, hB9⟩ := id hC
  refine ys_f 1 r_302_0 rfl ?_
  refine ys_f 13 r_302_1 rfl ?_
  refine ys_f 14 r_302_13 rfl ?_
  refine ys_f 15 r_302_14 rfl ?_
  refine ys_call (lv2 := [(0, _), (1, _)]) r_302_15 rfl rfl (by decide) (xcan_0 rfl rfl o0 (by rfl)) rfl (yP_lv [(0, .ref sb), (1, .int (nI 0))] rfl ⟨rfl, (congrArg (fun z => some (Value.int z)) (nI_k 0)), trivial⟩ (ey_300 hC (mn := 0) (by omega) (by omega) (fun h1 cap1 v1 Bt1 k1 hm1 hC1 w1 => ?_)))
  obtain ⟨⟨mb1, o1⟩, r1, hL1, hB1, ⟨hn1, h161, h221⟩, ⟨hv81, hvB1, hvk1⟩, hk1, hBk1, hB91⟩ := id hC1
  refine yK_0 rfl ?_
  refine ys_f 19 r_302_18 rfl ?_
  refine ys_get 22 r_302_19 rfl rfl o1 (by rfl) ?_
  refine ys_f 23 r_302_22 rfl ?_
  refine ys_if 63 26 r_302_23 rfl (fun hc2 => ?_) (fun hc2 => ?_)
  · have hc2 := (nI_leN (nI_k 0) rfl (by omega) (by omega)).mp hc2
    refine ys_f 64 r_302_63 rfl ?_
    refine ys_get 67 r_302_64 rfl rfl o1 (by rfl) ?_
    refine ys_f 68 r_302_67 rfl ?_
    refine ys_if 76 71 r_302_68 rfl (fun hc3 => ?_) (fun hc3 => ?_)
    · have hc3 := (nI_leN rfl (nI_k 0) (by omega) (by omega)).mp hc3
      refine ys_f 77 r_302_76 rfl ?_
      refine ys_f 78 r_302_77 rfl ?_
      refine ys_putC 81 r_302_78 rfl (by first | exact x2 | exact o1) (by rfl) (by rfl) (fun f3 x3 y3 => ?_)
      refine ys_ret r_302_81 rfl ?_
      first
        | exact k9 (f3, h1.2) ⟨cap1, v1, Bt1, k1, ⟨_, x3⟩, r1.fr ((y3 _ (by omega)).trans (y2 _ (by omega))), fun j hj => absurd hj (Nat.not_lt_zero _), hB1, ⟨Nat.zero_le _, h161, h221⟩, ⟨hv81, hvB1, hvk1⟩, hk1, hBk1, hB91⟩ ⟨fun c c1 c2 c3 => (y3 c (by omega)).trans ((y2 c (by omega)).trans (w1.1 c c1 c2 c3)), w1.2.1, w1.2.2⟩
        | exact k9 (f3, h1.2) ⟨cap1, v1, Bt1, k1, ⟨_, x3⟩, r1.fr (y3 _ (by omega)), fun j hj => absurd hj (Nat.not_lt_zero _), hB1, ⟨Nat.zero_le _, h161, h221⟩, ⟨hv81, hvB1, hvk1⟩, hk1, hBk1, hB91⟩ ⟨fun c c1 c2 c3 => (y3 c (by omega)).trans (w1.1 c c1 c2 c3), w1.2.1, w1.2.2⟩
    · have hc3 := mt (nI_leN rfl (nI_k 0) (by omega) (by omega)).mpr hc3
      refine ys_f 72 r_302_71 rfl ?_
      refine ys_f 73 r_302_72 rfl ?_
      refine ys_putC 76 r_302_73 rfl o1 (by rfl) (by rfl) (fun f2 x2 y2 => ?_)
      refine ys_f 77 r_302_76 rfl ?_
      refine ys_f 78 r_302_77 rfl ?_
      refine ys_putC 81 r_302_78 rfl (by first | exact x2 | exact o1) (by rfl) (by rfl) (fun f3 x3 y3 => ?_)
      refine ys_ret r_302_81 rfl ?_
      first
        | exact k9 (f3, h1.2) ⟨cap1, v1, Bt1, k1, ⟨_, x3⟩, r1.fr ((y3 _ (by omega)).trans (y2 _ (by omega))), fun j hj => absurd hj (Nat.not_lt_zero _), hB1, ⟨Nat.zero_le _, h161, h221⟩, ⟨hv81, hvB1, hvk1⟩, hk1, hBk1, hB91⟩ ⟨fun c c1 c2 c3 => (y3 c (by omega)).trans ((y2 c (by omega)).trans (w1.1 c c1 c2 c3)), w1.2.1, w1.2.2⟩
        | exact k9 (f3, h1.2) ⟨cap1, v1, Bt1, k1, ⟨_, x3⟩, r1.fr (y3 _ (by omega)), fun j hj => absurd hj (Nat.not_lt_zero _), hB1, ⟨Nat.zero_le _, h161, h221⟩, ⟨hv81, hvB1, hvk1⟩, hk1, hBk1, hB91⟩ ⟨fun c c1 c2 c3 => (y3 c (by omega)).trans (w1.1 c c1 c2 c3), w1.2.1, w1.2.2⟩
  · have hc2 := mt (nI_leN (nI_k 0) rfl (by omega) (by omega)).mpr hc2
    exfalso; omega

theorem ey_296 {S : XSc} {d : Nat} {h : XH} {Q : XO → XH → Prop} {sb B0 n : Nat} {L : Nat → Int32} (hX : YbX sb B0 h n L) (hn9 : n ≤ 100) (k9 : ∀ h2, YbX sb B0 h2 0 L → Yw sb B0 h h2 1 220 → Q (.inl none) h2) : yP S (d + 4) 296 0 [(0, .ref sb), (1, .int 0)] [] h Q := by
  refine ys_f 1 r_296_0 rfl ?_
  refine ys_f 2 r_296_1 rfl ?_
  refine ys_call (lv2 := [(0, _), (1, _)]) r_296_2 rfl rfl (by decide) (ycan_3b hX rfl rfl rfl rfl) rfl (ey_302 hX hn9 (fun h1 hX1 w1 => ?_))
  refine yK_0 rfl ?_
  refine ys_ret r_296_5 rfl ?_
  exact k9 h1 hX1 w1

theorem ycki2 {i n cap : Nat} {h : XH} (hi : i < n) (hc : n ≤ cap) (hcap : cap ≤ 1000) : yX 4 [.int (nI i), .int (if nI cap >>> ((0 : Int32) &&& 31) < nI n then nI cap >>> ((0 : Int32) &&& 31) else nI n)] h = some (none, h) := by
  rw [shr0, if_neg (mt (nI_ltN rfl rfl (by omega) (by omega)).mp (by omega))]
  exact ycki_nI hi (by omega)
theorem ey_303 {S : XSc} {d : Nat} {h : XH} {Q : XO → XH → Prop} {sb B0 n : Nat} {L : Nat → Int32} (hX : YbX sb B0 h n L) {i : Nat} (hi : i < n) (k9 : Q (.inl (some (.int (L i)))) h) : yP S (d + 1) 303 0 [(0, .ref sb), (1, .int (nI i))] [] h Q := by
  obtain ⟨cap, v, Bt, k, hC⟩ := hX
  obtain ⟨⟨mb, o0⟩, r0, hL, hB, ⟨hn, h16, h220⟩, ⟨hv8, hvB, hvk⟩, hk, hBk, hB9⟩ := id hC
  obtain ⟨x9, hx9, ex9⟩ := hB i (by omega)
  refine ys_f 1 r_303_0 rfl ?_
  refine ys_get 4 r_303_1 rfl rfl (by first | assumption | exact xup_s | exact o0 | (refine (xup_n (by omega)).trans ?_; first | assumption | exact xup_s | exact o0) | (refine (xup_n (by omega)).trans ((xup_n (by omega)).trans ?_); first | assumption | exact xup_s | exact o0) | (refine (xup_n (by omega)).trans ((xup_n (by omega)).trans ((xup_n (by omega)).trans ?_)); first | assumption | exact xup_s | exact o0)) (by rfl) ?_
  refine ys_f 5 (lv2 := [(2, _), (0, _), (1, _)]) r_303_4 rfl ?_
  refine ys_f 6 r_303_5 rfl ?_
  refine ys_get 9 r_303_6 rfl rfl (by first | assumption | exact xup_s | exact o0 | (refine (xup_n (by omega)).trans ?_; first | assumption | exact xup_s | exact o0) | (refine (xup_n (by omega)).trans ((xup_n (by omega)).trans ?_); first | assumption | exact xup_s | exact o0) | (refine (xup_n (by omega)).trans ((xup_n (by omega)).trans ((xup_n (by omega)).trans ?_)); first | assumption | exact xup_s | exact o0)) (by rfl) ?_
  refine ys_f 10 (lv2 := [(3, _), (2, _), (0, _), (1, _)]) r_303_9 rfl ?_
  refine ys_f 11 r_303_10 rfl ?_
  refine ys_get 14 r_303_11 rfl rfl (by first | assumption | exact xup_s | exact o0 | (refine (xup_n (by omega)).trans ?_; first | assumption | exact xup_s | exact o0) | (refine (xup_n (by omega)).trans ((xup_n (by omega)).trans ?_); first | assumption | exact xup_s | exact o0) | (refine (xup_n (by omega)).trans ((xup_n (by omega)).trans ((xup_n (by omega)).trans ?_)); first | assumption | exact xup_s | exact o0)) (by rfl) ?_
  refine ys_f 15 r_303_14 rfl ?_
  refine ys_lenA 16 r_303_15 rfl r0 ?_
  refine ys_f 17 r_303_16 rfl ?_
  refine ys_f 18 r_303_17 rfl ?_
  refine ys_ext 21 r_303_18 rfl rfl rfl rfl ?_
  refine ys_f 23 (lv2 := [(4, _), (3, _), (2, _), (0, _), (1, _)]) r_303_21 rfl ?_
  refine ys_f 24 r_303_23 rfl ?_
  refine ys_f 26 r_303_24 rfl ?_
  refine ys_ext 29 r_303_26 rfl rfl (ycki2 hi hn (by omega)) rfl ?_
  refine ys_f 30 r_303_29 rfl ?_
  refine ys_f 33 r_303_30 rfl ?_
  refine ys_f 34 r_303_33 rfl ?_
  refine ys_f 35 r_303_34 rfl ?_
  refine ys_aldB 36 r_303_35 (fun _ _ => rfl) rfl rfl rfl (j := i) rfl r0 (by omega) ?_
  refine ys_f 39 r_303_36 rfl ?_
  refine ys_f 40 r_303_39 rfl ?_
  refine ys_f 41 r_303_40 rfl ?_
  refine ys_ret r_303_41 (xr_charE (by rw [ex9]; exact (byt_ok hx9).2.2.2) (chr_ok hx9).2) ?_
  exact xq_int k9 (ex9.symm.trans (hL i hi))

theorem ey_295 {S : XSc} {d : Nat} {h : XH} {Q : XO → XH → Prop} {sb B0 n : Nat} {L : Nat → Int32} (hX : YbX sb B0 h n L) {i : Nat} (hi : i < n) (k9 : Q (.inl (some (.int (L i)))) h) : yP S (d + 2) 295 0 [(0, .ref sb), (1, .int (nI i))] [] h Q := by
  have hz9 : vp_nar .char (L i) = L i := by
    obtain ⟨cap, v, Bt, k, hC⟩ := id hX
    obtain ⟨x9, hx9, ex9⟩ := hC.2.2.2.1 i (by have := hC.2.2.2.2.1.1; omega)
    rw [← hC.2.2.1 i hi, ex9]
    exact (chr_ok hx9).2
  refine ys_f 1 r_295_0 rfl ?_
  refine ys_f 2 r_295_1 rfl ?_
  refine ys_call (lv2 := [(0, _), (1, _)]) r_295_2 rfl rfl (by decide) (ycan_3b hX rfl rfl rfl rfl) rfl (ey_303 hX hi ?_)
  refine yK_v rfl ?_
  refine ys_ret r_295_5 (xr_charE rfl hz9) ?_
  exact k9


