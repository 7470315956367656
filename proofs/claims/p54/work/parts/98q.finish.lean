/-! the finished text -/
theorem yXlen {h : XH} {sb v n : Nat} {mb : Int32} (o0 : h.1 sb = some (.inr (10, [.ref v, .int 0, .int mb, .int (nI n)]))) : yX 14 [.ref sb] h = some (some (.int (nI n)), h) := by
  show yXhI 10 3 [Value.ref sb] h = _
  unfold yXhI
  simp only [o0, Nat.beq_refl, cond_true]
  rfl
theorem ys_cpyP {S : XSc} {d mid pc : Nat} {lv : XLv} {st : List Value} {h : XH} {Q : XO → XH → Prop} {e : XI} (pc2 : Nat) {a b n n0 n1 : Nat} {v w : Nat → Int32} {z1 z2 z3 : Int32} (hr : xT.1 mid pc = some e) (hp : pc + 3 = pc2) (hc : xcall e (.int z3 :: .int z2 :: .ref b :: .int z1 :: .ref a :: st) = some (4, ([.ref a, .int z1, .ref b, .int z2, .int z3], st))) (he : e.2.1.1 = 0) (e1 : z1 = nI 0) (e2 : z2 = nI 0) (e3 : z3 = nI n) (ha : IA h.1 4 a n0 v) (hb : IA h.1 4 b n1 w) (hn0 : n ≤ n0) (hn : n ≤ n1) (hn0b : n0 ≤ 65536) (hn1 : n1 ≤ 65536) (hf : ∀ j, j < n → fits .byte (.int (v j)) = true) (k : ∀ f, IA f 4 b n1 (fun j => if j < n then v j else w j) → Fr h.1 f b (b + 1) → yP S d mid pc2 lv st (f, h.2) Q) : yP S d mid pc lv (.int z3 :: .int z2 :: .ref b :: .int z1 :: .ref a :: st) h Q := by
  subst e1; subst e2; subst e3
  obtain ⟨F, g1, g2⟩ := ha
  obtain ⟨G, g3, g4⟩ := hb
  have hX : yX e.2.1.1 [.ref a, .int (nI 0), .ref b, .int (nI 0), .int (nI n)] h = some (none, (xup h.1 b (.inl (4, (n1, .inl (va_cpy F G 0 0 n)))), h.2)) := by
    rw [he]
    show yXcopy [.ref a, .int (nI 0), .ref b, .int (nI 0), .int (nI n)] h = _
    refine yXcopy_l ?_
    unfold xXcopy
    simp only [g1, g3]
    rw [show (nI 0).toNatClampNeg = 0 from nI_clamp (by omega), show (nI n).toNatClampNeg = n from nI_clamp (by omega)]
    rw [if_pos ⟨⟨trivial, Or.inr trivial⟩, ⟨nI_pos (by omega), nI_pos (by omega), nI_pos (by omega)⟩, ⟨by omega, by omega⟩, fun _ i hi => by rw [Nat.zero_add, g2 i (by omega)]; exact hf i hi⟩]
  refine ys_ext pc2 hr hp hc hX rfl (k _ ⟨_, xup_s, fun j hj => ?_⟩ (Fr.up (Nat.le_refl _) (Nat.lt_succ_self _)))
  show va_cpy F G 0 0 n j = (if j < n then v j else w j)
  by_cases z : j < n
  · rw [pk_cpy_in (by omega) (by omega), show 0 + (j - 0) = j by omega, if_pos z]
    exact g2 j (by omega)
  · rw [if_neg z, show va_cpy F G 0 0 n j = G j from if_neg (by omega)]
    exact g4 j hj
section QQ
variable {S : XSc} {d : Nat} {h : XH} {Q : XO → XH → Prop} {sb B0 n : Nat} {L : Nat → Int32}
theorem la_318  (hX : YbX sb B0 h n L) (hne : n ≠ 16 ∧ n ≠ 34 ∧ n ≠ 70 ∧ n ≠ 142) (k9 : ∀ h2 k, h.2.1 = some k → B0 ≤ 72 + k → h2.1 (72 + k) = some (.inr (11, [.ref (72 + (k + 1)), .int 0, .int 0, .int 0])) → IA h2.1 4 (72 + (k + 1)) n L → (∀ j, j < n → ∃ x, x < 128 ∧ L j = nI x) → (∀ c, c < 72 + k → h2.1 c = h.1 c) → h2.2.1 = some (k + 2) → h2.2.2.1 ≤ h.2.2.1 + 2 → h2.2.2.2 ≤ h.2.2.2 + 250 → Q (.inl (some (.ref (72 + k)))) h2) : yP S (d + 6) 318 0 [(0, .ref sb)] [] h Q := by
  obtain ⟨cap, v, Bt, k, hC⟩ := id hX
  obtain ⟨⟨mb, o0⟩, r0, hL, hB, ⟨hn, h16, h220⟩, ⟨hv8, hvB, hvk⟩, hk, hBk, hB9⟩ := id hC
  refine ys_newO 3 r_318_0 rfl rfl hk (fun h1 t1 y1 e1 => ?_)
  have o1 := (y1 sb (by omega)).trans o0
  have r1 := r0.fr (y1 v (by omega))
  have hk1 : h1.2.1 = some (k + 1) := congrArg Prod.fst e1
  refine ys_f 4 r_318_3 rfl ?_
  refine ys_f 5 r_318_4 rfl ?_
  refine ys_call (lv2 := [(0, _), (1, _)]) r_318_5 rfl rfl (by decide) (xcan_2 rfl) rfl ?_
  refine ys_f 1 r_323_0 rfl ?_
  refine ys_f 2 r_323_1 rfl ?_
  refine ys_f 3 r_323_2 rfl ?_
  refine ys_call (lv2 := [(0, _), (1, _), (2, _)]) r_323_3 rfl rfl (by decide) (xcan_2 rfl) rfl ?_
  refine ys_f 1 r_324_0 rfl ?_
  refine ys_obj 4 r_324_1 rfl rfl rfl ?_
  refine ys_f 5 r_324_4 rfl ?_
  refine ys_call (lv2 := [(0, _)]) r_324_5 rfl rfl (by decide) (xcan_0 rfl rfl (by first | assumption | exact xup_s | exact o0 | exact o1 | exact o2 | exact o3 | (refine (xup_n (by omega)).trans ?_; first | assumption | exact xup_s | exact o0 | exact o1 | exact o2 | exact o3) | (refine (xup_n (by omega)).trans ((xup_n (by omega)).trans ?_); first | assumption | exact xup_s | exact o0 | exact o1 | exact o2 | exact o3) | (refine (xup_n (by omega)).trans ((xup_n (by omega)).trans ((xup_n (by omega)).trans ?_)); first | assumption | exact xup_s | exact o0 | exact o1 | exact o2 | exact o3)) (by rfl)) rfl ?_
  refine ys_f 1 r_322_0 rfl ?_
  refine ys_get 4 r_322_1 rfl rfl (by first | assumption | exact xup_s | exact o0 | exact o1 | exact o2 | exact o3 | (refine (xup_n (by omega)).trans ?_; first | assumption | exact xup_s | exact o0 | exact o1 | exact o2 | exact o3) | (refine (xup_n (by omega)).trans ((xup_n (by omega)).trans ?_); first | assumption | exact xup_s | exact o0 | exact o1 | exact o2 | exact o3) | (refine (xup_n (by omega)).trans ((xup_n (by omega)).trans ((xup_n (by omega)).trans ?_)); first | assumption | exact xup_s | exact o0 | exact o1 | exact o2 | exact o3)) (by rfl) ?_
  refine ys_ret r_322_4 rfl ?_
  refine yK_v rfl ?_
  refine ys_f 9 (lv2 := [(3, _), (0, _), (1, _), (2, _)]) r_324_8 rfl ?_
  refine ys_f 10 r_324_9 rfl ?_
  refine ys_ext 13 r_324_10 rfl rfl (yXlen o1) rfl ?_
  refine ys_f 15 (lv2 := [(4, _), (3, _), (0, _), (1, _), (2, _)]) r_324_13 rfl ?_
  refine ys_f 16 r_324_15 rfl ?_
  refine ys_call (lv2 := [(0, _)]) r_324_16 rfl rfl (by decide) (xcan_0 rfl rfl (by first | assumption | exact xup_s | exact o0 | exact o1 | exact o2 | exact o3 | (refine (xup_n (by omega)).trans ?_; first | assumption | exact xup_s | exact o0 | exact o1 | exact o2 | exact o3) | (refine (xup_n (by omega)).trans ((xup_n (by omega)).trans ?_); first | assumption | exact xup_s | exact o0 | exact o1 | exact o2 | exact o3) | (refine (xup_n (by omega)).trans ((xup_n (by omega)).trans ((xup_n (by omega)).trans ?_)); first | assumption | exact xup_s | exact o0 | exact o1 | exact o2 | exact o3)) (by rfl)) rfl (yP_up (show d ≤ d + 3 by omega) (ey_306 o1 ?_))
  refine yK_v rfl ?_
  refine ys_f 22 r_324_19 rfl ?_
  refine ys_f 23 r_324_22 rfl ?_
  refine ys_f 24 r_324_23 rfl ?_
  refine ys_putC 27 r_324_24 rfl t1 (by rfl) (by rfl) (fun f2 x2 y2 => ?_)
  refine ys_f 28 r_324_27 rfl ?_
  refine ys_f 29 r_324_28 rfl ?_
  refine ys_f 30 r_324_29 rfl ?_
  refine ys_f 32 r_324_30 rfl ?_
  refine ys_call (lv2 := [(0, _), (1, _), (2, _)]) r_324_32 rfl rfl (by decide) (xcan_1 rfl) rfl ?_
  refine ys_f 1 r_326_0 rfl ?_
  refine ys_f 4 r_326_1 rfl ?_
  refine ys_f 5 r_326_4 rfl ?_
  refine ys_f 6 r_326_5 rfl ?_
  refine ys_lenA 7 r_326_6 rfl (r1.fr (y2 v (by omega))) ?_
  refine ys_if 17 10 r_326_7 rfl (fun hc3 => ?_) (fun hc3 => ?_)
  · have hc3 := (nI_eqN rfl rfl (by omega) (by omega)).mp hc3
    exfalso; omega
  · have hc3 := mt (nI_eqN rfl rfl (by omega) (by omega)).mpr hc3
    refine ys_f 11 r_326_10 rfl ?_
    refine ys_f 12 r_326_11 rfl ?_
    refine ys_f 13 r_326_12 rfl ?_
    refine ys_call (lv2 := [(0, _), (1, _), (2, _)]) r_326_13 rfl rfl (by decide) (xcan_1 rfl) rfl ?_
    refine ys_f 1 r_327_0 rfl ?_
    refine ys_f 2 r_327_1 rfl ?_
    refine ys_call (lv2 := [(0, _), (1, _)]) r_327_2 rfl rfl (by decide) (xcan_1 rfl) rfl ?_
    refine ys_f 1 r_328_0 rfl ?_
    refine ys_f 2 r_328_1 rfl ?_
    refine ys_if 37 5 r_328_2 rfl (fun hc4 => ?_) (fun hc4 => ?_)
    · have hc4 := (nI_leN (nI_k 0) rfl (by omega) (by omega)).mp hc4
      refine ys_ret r_328_37 rfl ?_
      refine yK_0 rfl ?_
      refine ys_f 6 r_327_5 rfl ?_
      refine ys_f 7 r_327_6 rfl ?_
      refine ys_f 8 r_327_7 rfl ?_
      refine ys_f 9 (lv2 := [(3, _), (0, _), (1, _), (2, _)]) r_327_8 rfl ?_
      refine ys_f 10 r_327_9 rfl ?_
      refine ys_newB 12 r_327_10 (h := (f2, h1.2)) rfl (N := n) (nI_subE rfl (nI_k 0) (by omega)) hk1 (by omega) (fun f3 a3 y3 => ?_)
      have r3 := (r1.fr (y2 v (by omega))).fr (y3 v (by omega))
      refine ys_f 14 (lv2 := [(4, _), (3, _), (0, _), (1, _), (2, _)]) r_327_12 rfl ?_
      refine ys_f 15 r_327_14 rfl ?_
      refine ys_f 16 r_327_15 rfl ?_
      refine ys_f 18 r_327_16 rfl ?_
      refine ys_f 19 r_327_18 rfl ?_
      refine ys_f 20 r_327_19 rfl ?_
      refine ys_lenA 21 r_327_20 rfl r3 ?_
      refine ys_f 22 r_327_21 rfl ?_
      refine ys_f 23 r_327_22 rfl ?_
      refine ys_f 24 r_327_23 rfl ?_
      refine ys_ext 27 r_327_24 rfl rfl rfl rfl ?_
      refine ys_cpyP 30 r_327_27 rfl rfl rfl (n := n) rfl rfl ((if_pos ((nI_ltN (nI_subE rfl (nI_k 0) (by omega)) (nI_subE rfl (nI_k 0) (by omega)) (by omega) (by omega)).mpr (by omega))).trans (nI_subE rfl (nI_k 0) (by omega))) r3 a3 hn (Nat.le_refl _) (by omega) (by omega) (fun j hj => ?_) (fun f4 a4 y4 => ?_)
      · obtain ⟨x9, hx9, e9⟩ := hB j (by omega)
        rw [e9]
        exact (byt_ok hx9).2.2.1
      refine ys_f 32 r_327_30 rfl ?_
      refine ys_ret r_327_32 rfl ?_
      refine yK_v rfl ?_
      refine ys_ret r_326_16 rfl ?_
      refine yK_v rfl ?_
      refine ys_putC 38 r_324_35 rfl ((y4 _ (by omega)).trans ((y3 _ (by omega)).trans x2)) (by rfl) (by rfl) (fun f5 x5 y5 => ?_)
      refine ys_f 97 r_324_38 rfl ?_
      refine ys_ret r_324_97 rfl ?_
      refine yK_0 rfl ?_
      refine ys_ret r_323_6 rfl ?_
      refine yK_0 rfl ?_
      refine ys_ret r_318_8 rfl ?_
      have hc1 : h1.2.2.1 = h.2.2.1 + 1 := congrArg (fun z => z.2.1) e1
      have hc2 : h1.2.2.2 = h.2.2.2 + 4 := congrArg (fun z => z.2.2) e1
      refine k9 (f5, (some (k + 1 + 1), (h1.2.2.1 + 1, h1.2.2.2 + n))) k hk hBk x5 ?_ (fun j hj => ?_) (fun c hc => ?_) rfl ?_ ?_
      · obtain ⟨F9, z1, z2⟩ := a4.fr (y5 _ (by omega))
        exact ⟨F9, z1, fun j hj => (z2 j hj).trans ((if_pos hj).trans (hL j hj))⟩
      · obtain ⟨x9, hx9, e9⟩ := hB j (by omega)
        exact ⟨x9, hx9, (hL j hj).symm.trans e9⟩
      · exact (y5 c (by omega)).trans ((y4 c (by omega)).trans ((y3 c (by omega)).trans ((y2 c (by omega)).trans (y1 c (by omega)))))
      · show h1.2.2.1 + 1 ≤ _
        omega
      · show h1.2.2.2 + n ≤ _
        rw [hc2]
        omega
    · have hc4 := mt (nI_leN (nI_k 0) rfl (by omega) (by omega)).mpr hc4
      exfalso; omega

end QQ
/-- a text that was made -/
def StH (h : XH) (F : Nat → Prop) (t m : Nat) (D : Nat → Int32) : Prop := (∃ v : Nat, h.1 t = some (.inr (11, [.ref v, .int 0, .int 0, .int 0])) ∧ IA h.1 4 v m D ∧ (72 ≤ t ∧ 72 ≤ v) ∧ (¬ F t ∧ ¬ F v) ∧ ∃ n, h.2.1 = some n ∧ t < 72 + n ∧ v < 72 + n) ∧ m ≤ 1000 ∧ ∀ j, j < m → ∃ x, x < 128 ∧ D j = nI x
theorem StH.mv {h h2 : XH} {F F2 : Nat → Prop} {t m x y : Nat} {D : Nat → Int32} (s : StH h F t m D) (u : MvC h h2 F F2 x y) : StH h2 F2 t m D := by
  obtain ⟨⟨v, s1, s2, ⟨s3, s4⟩, ⟨s5, s6⟩, n, s7, s8, s9⟩, s10⟩ := s
  obtain ⟨n1, n2, e1, e2, u1, u2, u3, u4, u5, u6⟩ := u
  cases s7.symm.trans e1
  have k : ∀ c, ¬ F c → c < 72 + n → ¬ F2 c := fun c hc hl q => by
    rcases u2 c q with w | w
    · exact hc w
    · omega
  exact ⟨⟨v, (u4 t s8 s5).trans s1, s2.fr (u4 v s9 s6), ⟨s3, s4⟩, ⟨k t s5 s8, k v s6 s9⟩, n2, e2, by omega, by omega⟩, s10⟩
section RR
variable {S : XSc} {d : Nat} {h : XH} {Q : XO → XH → Prop} {t m : Nat} {F : Nat → Prop} {D : Nat → Int32}
theorem StH.x (s : StH h F t m D) : xstr 72 h t = true := by
  obtain ⟨⟨v, s1, -⟩, -⟩ := s
  unfold xstr
  simp only [s1, Nat.beq_refl, Bool.or_true]
theorem lh_val {v : Nat} (o : h.1 t = some (.inr (11, [.ref v, .int 0, .int 0, .int 0]))) (h72 : 72 ≤ t) : yX 12 [.ref t] h = some (some (.ref v), h) := by
  show yXval [.ref t] h = _
  rw [yXval_hi h72]
  unfold yXhf
  simp only [o, Nat.beq_refl, cond_true]
  rfl
theorem lh_cod {v : Nat} (o : h.1 t = some (.inr (11, [.ref v, .int 0, .int 0, .int 0]))) (h72 : 72 ≤ t) : yX 13 [.ref t] h = some (some (.int 0), h) := by
  show yXcod [.ref t] h = _
  rw [yXcod_hi h72]
  unfold yXhf
  simp only [o, Nat.beq_refl, cond_true]
  rfl
theorem lh_312  (hs : StH h F t m D) (k : Q (.inl (some (.int (nI m)))) h) : yP S (d + 1) 312 0 [(0, .ref t)] [] h Q := by
  obtain ⟨⟨v, s1, s2, ⟨s3, s4⟩, ⟨s5, s6⟩, n9, s7, s8, s9⟩, s10, s11⟩ := id hs
  refine ys_f 1 r_312_0 rfl ?_
  refine ys_ext 4 r_312_1 rfl rfl (lh_val s1 s3) rfl ?_
  refine ys_lenA 5 r_312_4 rfl s2 ?_
  refine ys_f 6 r_312_5 rfl ?_
  refine ys_call (lv2 := [(0, _)]) r_312_6 rfl rfl (by decide) (xcan_str rfl rfl hs.x) rfl ?_
  refine ys_gst 3 r_314_0 rfl ?_
  refine ys_f 6 r_314_3 rfl ?_
  refine ys_f 7 r_314_6 rfl ?_
  refine ys_ext 10 r_314_7 rfl rfl (lh_cod s1 s3) rfl ?_
  refine ys_f 14 r_314_10 rfl ?_
  refine ys_ret r_314_14 rfl ?_
  refine yK_v rfl ?_
  refine ys_f 10 r_312_9 rfl ?_
  refine ys_ret r_312_10 rfl ?_
  show Q (.inl (some (.int (nI m >>> ((0 : Int32) &&& 31))))) h
  rw [shr0]
  exact k

theorem lh_313  (hs : StH h F t m D) {i : Nat} (hi : i < m) (k : Q (.inl (some (.int (D i)))) h) : yP S (d + 1) 313 0 [(0, .ref t), (1, .int (nI i))] [] h Q := by
  obtain ⟨⟨v, s1, s2, ⟨s3, s4⟩, ⟨s5, s6⟩, n9, s7, s8, s9⟩, s10, s11⟩ := id hs
  obtain ⟨x, hx, ex⟩ := s11 i hi
  have e1 : (((D i) &&& 255).toUInt32 % 65536).toInt32 = D i := by rw [ex]; exact (byt_ok hx).2.2.2
  have e2 : vp_nar .char (D i) = D i := by rw [ex]; exact (chr_ok hx).2
  refine ys_f 1 r_313_0 rfl ?_
  refine ys_call (lv2 := [(0, _)]) r_313_1 rfl rfl (by decide) (xcan_str rfl rfl hs.x) rfl ?_
  refine ys_gst 3 r_315_0 rfl ?_
  refine ys_f 6 r_315_3 rfl ?_
  refine ys_f 7 r_315_6 rfl ?_
  refine ys_ext 10 r_315_7 rfl rfl (lh_cod s1 s3) rfl ?_
  refine ys_f 13 r_315_10 rfl ?_
  refine ys_f 14 r_315_13 rfl ?_
  refine ys_f 18 r_315_14 rfl ?_
  refine ys_ret r_315_18 rfl ?_
  refine yK_v rfl ?_
  refine ys_f 7 r_313_4 rfl ?_
  refine ys_f 8 r_313_7 rfl ?_
  refine ys_ext 11 r_313_8 rfl rfl (lh_val s1 s3) rfl ?_
  refine ys_f 12 r_313_11 rfl ?_
  refine ys_call (lv2 := [(0, _), (1, _)]) r_313_12 rfl rfl (by decide) (xcan_1 rfl) rfl ?_
  refine ys_f 1 r_316_0 rfl ?_
  refine ys_f 2 r_316_1 rfl ?_
  refine ys_lenA 3 r_316_2 rfl s2 ?_
  refine ys_ext 6 r_316_3 rfl rfl (ycki_nI hi (by omega)) rfl ?_
  refine ys_f 7 r_316_6 rfl ?_
  refine ys_f 8 r_316_7 rfl ?_
  refine ys_aldB 9 r_316_8 (fun _ _ => rfl) rfl rfl rfl (j := i) rfl s2 (by omega) ?_
  refine ys_f 12 r_316_9 rfl ?_
  refine ys_f 13 r_316_12 rfl ?_
  refine ys_f 14 r_316_13 rfl ?_
  refine ys_ret r_316_14 (xr_charE e1 e2) ?_
  refine yK_v rfl ?_
  refine ys_ret r_313_15 (xr_charE rfl e2) ?_
  exact k

end RR
section SS
variable {S : XSc} {d B b : Nat} {h : XH} {F : Nat → Prop} {Q : XO → XH → Prop} {G H Sv : Nat → Int32} {ch : Nat} {sv : Bool} {ea fa : Int32} {tn : Nat} {Bu : Nat → Int32} {on : Nat} {Le : Nat → Int32}
theorem lp_167  {t mm : Nat} {D : Nat → Int32} (hm : on = mm) (he : ∀ i, i < mm → Le i = D i) (k : ∀ h2 F2, AtC h2 b F2 (Co B G H Sv ch sv ea fa tn Bu on Le) → MvC h h2 F F2 0 0 → Q (.inl (some (.int 1))) h2) : ∀ (m : Nat) (i : Nat) (h1 : XH) (F1 : Nat → Prop), mm + 1 - i < m → (i ≤ mm) → (AtC h1 b F1 (Co B G H Sv ch sv ea fa tn Bu on Le)) → (MvC h h1 F F1 0 0) → (StH h1 F1 t mm D) → yP S (d + 8) 167 12 [(3, .int (nI i)), (0, .ref b), (1, .int (nI mm)), (2, .ref t)] [] h1 Q := by
  intro m
  induction m with
  | zero => intro i h1 F1 hm; exact absurd hm (Nat.not_lt_zero _)
  | succ m ih =>
    intro i h1 F1 hm hi A1 M1 I1
    have s10 := I1.2.1
    obtain ⟨gs, o0⟩ := A1.cell (fun c z => z.1.o)
    refine ys_f 13 r_167_12 rfl ?_
    refine ys_f 14 r_167_13 rfl ?_
    refine ys_if 38 17 r_167_14 rfl (fun hc1 => ?_) (fun hc1 => ?_)
    · have hc1 := (nI_leN rfl rfl (by omega) (by omega)).mp hc1
      refine ys_f 39 r_167_38 rfl ?_
      refine ys_ret r_167_39 rfl ?_
      exact k _ _ A1 M1
    · have hc1 := mt (nI_leN rfl rfl (by omega) (by omega)).mpr hc1
      refine ys_f 18 r_167_17 rfl ?_
      refine ys_f 19 r_167_18 rfl ?_
      refine ys_call (lv2 := [(0, _), (1, _)]) r_167_19 rfl rfl (by decide) (xcan_0 rfl rfl (by first | assumption) (by rfl)) rfl (qa_130 A1 (i := i) (by omega) (fun h21 F21 A21 M21 => ?_))
      have N21 := M1.tr M21
      have i21 := I1.mv M21
      refine yK_v rfl ?_
      refine ys_f 23 r_167_22 rfl ?_
      refine ys_f 24 r_167_23 rfl ?_
      refine ys_call (lv2 := [(0, _), (1, _)]) r_167_24 rfl rfl (by decide) (xcan_str rfl rfl i21.x) rfl (yP_up (show d + 1 ≤ d + 7 by omega) (lh_313 i21 (i := i) (by omega) ?_))
      refine yK_v rfl ?_
      refine ys_if 32 30 r_167_27 rfl (fun hq => ?_) (fun hq => ?_)
      · refine ys_f 35 (lv2 := [(3, _), (0, _), (1, _), (2, _)]) r_167_32 rfl ?_
        refine ys_f 12 r_167_35 rfl ?_
        exact yP_lv [(3, .int (nI (i + 1))), (0, .ref b), (1, .int (nI mm)), (2, .ref t)] rfl ⟨(congrArg (fun z => some (Value.int z)) (nI_succ _).symm), rfl, rfl, rfl, trivial⟩ (ih (i + 1) _ _ (by omega) (by omega) A21 N21 i21)
      · exact absurd (he i (by omega)) hq

theorem la_167  (A : AtC h b F (Co B G H Sv ch sv ea fa tn Bu on Le)) {t mm : Nat} {D : Nat → Int32} (hs : StH h F t mm D) (hm : on = mm) (he : ∀ i, i < mm → Le i = D i) (k : ∀ h2 F2, AtC h2 b F2 (Co B G H Sv ch sv ea fa tn Bu on Le) → MvC h h2 F F2 0 0 → Q (.inl (some (.int 1))) h2) : yP S (d + 8) 167 0 [(0, .ref b), (1, .int (nI mm)), (2, .ref t)] [] h Q := by
  have s10 := hs.2.1
  refine ys_f 1 r_167_0 rfl ?_
  refine ys_f 2 r_167_1 rfl ?_
  refine ys_call (lv2 := [(0, _)]) r_167_2 rfl rfl (by decide) (xcan_str rfl rfl hs.x) rfl (yP_up (show d + 1 ≤ d + 7 by omega) (lh_312 hs ?_))
  refine yK_v rfl ?_
  refine ys_if 10 8 r_167_5 rfl (fun hq => ?_) (fun hq => ?_)
  · have hq := (nI_eqN rfl rfl (by omega) (by omega)).mp hq
    refine ys_f 11 r_167_10 rfl ?_
    refine ys_f 12 (lv2 := [(3, _), (0, _), (1, _), (2, _)]) r_167_11 rfl ?_
    exact yP_lv [(3, .int (nI 0)), (0, .ref b), (1, .int (nI mm)), (2, .ref t)] rfl ⟨rfl, rfl, rfl, rfl, trivial⟩ (lp_167 hm he k (mm + 2) 0 _ _ (by omega) (by omega) A (MvC.rf A) hs)
  · have hq := mt (nI_eqN rfl rfl (by omega) (by omega)).mpr hq
    exact absurd rfl hq

end SS
