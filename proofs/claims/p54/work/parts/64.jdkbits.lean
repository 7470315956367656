/-! the JDK's counts of bits -/
theorem low_mask {x : Int32} {t : Nat} (ht : t < 32) (h1 : x.toBitVec.getLsbD t = true) (h0 : ∀ j, j < t → x.toBitVec.getLsbD j = false) : (x ^^^ (-1)) &&& (x - 1) = nI (2 ^ t - 1) := by
  obtain ⟨n, hn⟩ : ∃ n, n = x.toBitVec.toNat := ⟨_, rfl⟩
  have hb : ∀ k, x.toBitVec.getLsbD k = n.testBit k := fun k => by rw [hn, BitVec.testBit_toNat]
  have hlt : n < 2 ^ 32 := by rw [hn]; exact x.toBitVec.isLt
  have p1 : 2 ^ t < 2 ^ 32 := Nat.pow_lt_pow_right (by omega) ht
  have hp : 0 < 2 ^ t := Nat.two_pow_pos t
  have m0 : n % 2 ^ t = 0 := by
    apply Nat.eq_of_testBit_eq
    intro j
    rw [Nat.testBit_mod_two_pow, Nat.zero_testBit]
    by_cases z : j < t
    · rw [← hb, h0 j z, Bool.and_false]
    · rw [decide_eq_false z, Bool.false_and]
  have m1 : (n / 2 ^ t) % 2 = 1 := by
    have := h1
    rw [hb, Nat.testBit_eq_decide_div_mod_eq] at this
    exact of_decide_eq_true this
  obtain ⟨m, hm⟩ : ∃ m, n / 2 ^ t = 2 * m + 1 := ⟨n / 2 ^ t / 2, by omega⟩
  have hd := Nat.div_add_mod n (2 ^ t)
  have hpow : 2 ^ (t + 1) = 2 * 2 ^ t := by rw [Nat.pow_succ, Nat.mul_comm]
  have e1 : n = 2 ^ (t + 1) * m + 2 ^ t := by
    rw [hpow]
    rw [hm, m0] at hd
    rw [← hd]
    rw [Nat.mul_add, Nat.mul_one, Nat.add_zero, Nat.mul_assoc, Nat.mul_left_comm]
  have e2 : n - 1 = 2 ^ (t + 1) * m + (2 ^ t - 1) := by omega
  have hq : (nI (2 ^ t - 1)).toBitVec = BitVec.ofNat 32 (2 ^ t - 1) := rfl
  apply Int32.toBitVec_inj.mp
  rw [Int32.toBitVec_and, Int32.toBitVec_xor, Int32.toBitVec_sub, hq]
  apply BitVec.eq_of_getLsbD_eq
  intro k hk
  have hs : (x.toBitVec - (1 : Int32).toBitVec).toNat = n - 1 := by
    rw [BitVec.toNat_sub_of_le]
    · rw [← hn]; rfl
    · rw [BitVec.le_def, ← hn]
      show 1 ≤ n
      omega
  have hminus : (-1 : Int32).toBitVec.getLsbD k = true := by
    show (BitVec.allOnes 32).getLsbD k = true
    rw [BitVec.getLsbD_allOnes, decide_eq_true hk]
  rw [BitVec.getLsbD_and, BitVec.getLsbD_xor, hminus, ← BitVec.testBit_toNat (x.toBitVec - (1 : Int32).toBitVec), hs, e2, hb, BitVec.getLsbD_ofNat, decide_eq_true hk, Bool.true_and, Nat.testBit_two_pow_sub_one, Nat.testBit_two_pow_mul_add _ (by omega)]
  rw [e1, Nat.testBit_two_pow_mul_add _ (by omega)]
  by_cases z : k < t + 1
  · rw [if_pos z, if_pos z, Nat.testBit_two_pow_sub_one, Nat.testBit_two_pow]
    by_cases y : k < t
    · rw [decide_eq_true y, decide_eq_false (by omega)]; rfl
    · rw [decide_eq_false y, Bool.and_false]
  · rw [if_neg z, if_neg z, decide_eq_false (by omega)]
    cases m.testBit (k - (t + 1)) <;> rfl
theorem v_289c_0 {S : XSc} {d : Nat} {h : XH} : xgo xT xX 12 32 (xro S.1 S.2) 60 d 289 8 [(0, .int (nI (2 ^ 0 - 1)))] [] h = some (.inl (some (.int (nI 0))), h) := rfl
theorem v_289c_1 {S : XSc} {d : Nat} {h : XH} : xgo xT xX 12 32 (xro S.1 S.2) 60 d 289 8 [(0, .int (nI (2 ^ 1 - 1)))] [] h = some (.inl (some (.int (nI 1))), h) := rfl
theorem v_289c_2 {S : XSc} {d : Nat} {h : XH} : xgo xT xX 12 32 (xro S.1 S.2) 60 d 289 8 [(0, .int (nI (2 ^ 2 - 1)))] [] h = some (.inl (some (.int (nI 2))), h) := rfl
theorem v_289c_3 {S : XSc} {d : Nat} {h : XH} : xgo xT xX 12 32 (xro S.1 S.2) 60 d 289 8 [(0, .int (nI (2 ^ 3 - 1)))] [] h = some (.inl (some (.int (nI 3))), h) := rfl
theorem v_289c_4 {S : XSc} {d : Nat} {h : XH} : xgo xT xX 12 32 (xro S.1 S.2) 60 d 289 8 [(0, .int (nI (2 ^ 4 - 1)))] [] h = some (.inl (some (.int (nI 4))), h) := rfl
theorem v_289c_5 {S : XSc} {d : Nat} {h : XH} : xgo xT xX 12 32 (xro S.1 S.2) 60 d 289 8 [(0, .int (nI (2 ^ 5 - 1)))] [] h = some (.inl (some (.int (nI 5))), h) := rfl
theorem v_289c_6 {S : XSc} {d : Nat} {h : XH} : xgo xT xX 12 32 (xro S.1 S.2) 60 d 289 8 [(0, .int (nI (2 ^ 6 - 1)))] [] h = some (.inl (some (.int (nI 6))), h) := rfl
theorem v_289c_7 {S : XSc} {d : Nat} {h : XH} : xgo xT xX 12 32 (xro S.1 S.2) 60 d 289 8 [(0, .int (nI (2 ^ 7 - 1)))] [] h = some (.inl (some (.int (nI 7))), h) := rfl
theorem v_289c_8 {S : XSc} {d : Nat} {h : XH} : xgo xT xX 12 32 (xro S.1 S.2) 60 d 289 8 [(0, .int (nI (2 ^ 8 - 1)))] [] h = some (.inl (some (.int (nI 8))), h) := rfl
theorem v_289c_9 {S : XSc} {d : Nat} {h : XH} : xgo xT xX 12 32 (xro S.1 S.2) 60 d 289 8 [(0, .int (nI (2 ^ 9 - 1)))] [] h = some (.inl (some (.int (nI 9))), h) := rfl
theorem v_289c_10 {S : XSc} {d : Nat} {h : XH} : xgo xT xX 12 32 (xro S.1 S.2) 60 d 289 8 [(0, .int (nI (2 ^ 10 - 1)))] [] h = some (.inl (some (.int (nI 10))), h) := rfl
theorem v_289c_11 {S : XSc} {d : Nat} {h : XH} : xgo xT xX 12 32 (xro S.1 S.2) 60 d 289 8 [(0, .int (nI (2 ^ 11 - 1)))] [] h = some (.inl (some (.int (nI 11))), h) := rfl
theorem v_289c_12 {S : XSc} {d : Nat} {h : XH} : xgo xT xX 12 32 (xro S.1 S.2) 60 d 289 8 [(0, .int (nI (2 ^ 12 - 1)))] [] h = some (.inl (some (.int (nI 12))), h) := rfl
theorem v_289c_13 {S : XSc} {d : Nat} {h : XH} : xgo xT xX 12 32 (xro S.1 S.2) 60 d 289 8 [(0, .int (nI (2 ^ 13 - 1)))] [] h = some (.inl (some (.int (nI 13))), h) := rfl
theorem v_289c_14 {S : XSc} {d : Nat} {h : XH} : xgo xT xX 12 32 (xro S.1 S.2) 60 d 289 8 [(0, .int (nI (2 ^ 14 - 1)))] [] h = some (.inl (some (.int (nI 14))), h) := rfl
theorem v_289c_15 {S : XSc} {d : Nat} {h : XH} : xgo xT xX 12 32 (xro S.1 S.2) 60 d 289 8 [(0, .int (nI (2 ^ 15 - 1)))] [] h = some (.inl (some (.int (nI 15))), h) := rfl
theorem v_289c_16 {S : XSc} {d : Nat} {h : XH} : xgo xT xX 12 32 (xro S.1 S.2) 60 d 289 8 [(0, .int (nI (2 ^ 16 - 1)))] [] h = some (.inl (some (.int (nI 16))), h) := rfl
theorem v_289c_17 {S : XSc} {d : Nat} {h : XH} : xgo xT xX 12 32 (xro S.1 S.2) 60 d 289 8 [(0, .int (nI (2 ^ 17 - 1)))] [] h = some (.inl (some (.int (nI 17))), h) := rfl
theorem v_289c_18 {S : XSc} {d : Nat} {h : XH} : xgo xT xX 12 32 (xro S.1 S.2) 60 d 289 8 [(0, .int (nI (2 ^ 18 - 1)))] [] h = some (.inl (some (.int (nI 18))), h) := rfl
theorem v_289c_19 {S : XSc} {d : Nat} {h : XH} : xgo xT xX 12 32 (xro S.1 S.2) 60 d 289 8 [(0, .int (nI (2 ^ 19 - 1)))] [] h = some (.inl (some (.int (nI 19))), h) := rfl
theorem v_289c_20 {S : XSc} {d : Nat} {h : XH} : xgo xT xX 12 32 (xro S.1 S.2) 60 d 289 8 [(0, .int (nI (2 ^ 20 - 1)))] [] h = some (.inl (some (.int (nI 20))), h) := rfl
theorem v_289c_21 {S : XSc} {d : Nat} {h : XH} : xgo xT xX 12 32 (xro S.1 S.2) 60 d 289 8 [(0, .int (nI (2 ^ 21 - 1)))] [] h = some (.inl (some (.int (nI 21))), h) := rfl
theorem v_289c_22 {S : XSc} {d : Nat} {h : XH} : xgo xT xX 12 32 (xro S.1 S.2) 60 d 289 8 [(0, .int (nI (2 ^ 22 - 1)))] [] h = some (.inl (some (.int (nI 22))), h) := rfl
theorem v_289c_23 {S : XSc} {d : Nat} {h : XH} : xgo xT xX 12 32 (xro S.1 S.2) 60 d 289 8 [(0, .int (nI (2 ^ 23 - 1)))] [] h = some (.inl (some (.int (nI 23))), h) := rfl
theorem v_289c_24 {S : XSc} {d : Nat} {h : XH} : xgo xT xX 12 32 (xro S.1 S.2) 60 d 289 8 [(0, .int (nI (2 ^ 24 - 1)))] [] h = some (.inl (some (.int (nI 24))), h) := rfl
theorem v_289c_25 {S : XSc} {d : Nat} {h : XH} : xgo xT xX 12 32 (xro S.1 S.2) 60 d 289 8 [(0, .int (nI (2 ^ 25 - 1)))] [] h = some (.inl (some (.int (nI 25))), h) := rfl
theorem v_289c_26 {S : XSc} {d : Nat} {h : XH} : xgo xT xX 12 32 (xro S.1 S.2) 60 d 289 8 [(0, .int (nI (2 ^ 26 - 1)))] [] h = some (.inl (some (.int (nI 26))), h) := rfl
theorem v_289c_27 {S : XSc} {d : Nat} {h : XH} : xgo xT xX 12 32 (xro S.1 S.2) 60 d 289 8 [(0, .int (nI (2 ^ 27 - 1)))] [] h = some (.inl (some (.int (nI 27))), h) := rfl
theorem v_289c_28 {S : XSc} {d : Nat} {h : XH} : xgo xT xX 12 32 (xro S.1 S.2) 60 d 289 8 [(0, .int (nI (2 ^ 28 - 1)))] [] h = some (.inl (some (.int (nI 28))), h) := rfl
theorem v_289c_29 {S : XSc} {d : Nat} {h : XH} : xgo xT xX 12 32 (xro S.1 S.2) 60 d 289 8 [(0, .int (nI (2 ^ 29 - 1)))] [] h = some (.inl (some (.int (nI 29))), h) := rfl
theorem v_289c_30 {S : XSc} {d : Nat} {h : XH} : xgo xT xX 12 32 (xro S.1 S.2) 60 d 289 8 [(0, .int (nI (2 ^ 30 - 1)))] [] h = some (.inl (some (.int (nI 30))), h) := rfl
theorem v_289c_31 {S : XSc} {d : Nat} {h : XH} : xgo xT xX 12 32 (xro S.1 S.2) 60 d 289 8 [(0, .int (nI (2 ^ 31 - 1)))] [] h = some (.inl (some (.int (nI 31))), h) := rfl
theorem v_289b {S : XSc} {d : Nat} {h : XH} {Q : XO → XH → Prop} {t : Nat} (ht : t < 32) (k : Q (.inl (some (.int (nI t)))) h) : xP S d 289 8 [(0, .int (nI (2 ^ t - 1)))] [] h Q := by
  refine ⟨60, (.inl (some (.int (nI t))), h), ?_, k⟩
  match t, ht with
  | 0, _ => exact v_289c_0
  | 1, _ => exact v_289c_1
  | 2, _ => exact v_289c_2
  | 3, _ => exact v_289c_3
  | 4, _ => exact v_289c_4
  | 5, _ => exact v_289c_5
  | 6, _ => exact v_289c_6
  | 7, _ => exact v_289c_7
  | 8, _ => exact v_289c_8
  | 9, _ => exact v_289c_9
  | 10, _ => exact v_289c_10
  | 11, _ => exact v_289c_11
  | 12, _ => exact v_289c_12
  | 13, _ => exact v_289c_13
  | 14, _ => exact v_289c_14
  | 15, _ => exact v_289c_15
  | 16, _ => exact v_289c_16
  | 17, _ => exact v_289c_17
  | 18, _ => exact v_289c_18
  | 19, _ => exact v_289c_19
  | 20, _ => exact v_289c_20
  | 21, _ => exact v_289c_21
  | 22, _ => exact v_289c_22
  | 23, _ => exact v_289c_23
  | 24, _ => exact v_289c_24
  | 25, _ => exact v_289c_25
  | 26, _ => exact v_289c_26
  | 27, _ => exact v_289c_27
  | 28, _ => exact v_289c_28
  | 29, _ => exact v_289c_29
  | 30, _ => exact v_289c_30
  | 31, _ => exact v_289c_31
  | n + 32, h => omega
theorem v_289 {S : XSc} {d : Nat} {h : XH} {Q : XO → XH → Prop} {x : Int32} {t : Nat} (ht : t < 32) (h1 : x.toBitVec.getLsbD t = true) (h0 : ∀ j, j < t → x.toBitVec.getLsbD j = false) (k : Q (.inl (some (.int (nI t)))) h) : xP S d 289 0 [(0, .int x)] [] h Q := by
  refine xs_f 1 r_289_0 rfl ?_
  refine xs_f 2 r_289_1 rfl ?_
  refine xs_f 3 r_289_2 rfl ?_
  refine xs_f 4 r_289_3 rfl ?_
  refine xs_f 5 r_289_4 rfl ?_
  refine xs_f 6 r_289_5 rfl ?_
  refine xs_f 7 r_289_6 rfl ?_
  refine xs_f 8 (lv2 := [(0, _)]) r_289_7 rfl ?_
  exact xP_lv [(0, .int (nI (2 ^ t - 1)))] rfl ⟨(by rw [← low_mask ht h1 h0]; rfl), trivial⟩ (v_289b ht k)

theorem bit_l2i (x : Int64) {k : Nat} (hk : k < 32) : x.toInt32.toBitVec.getLsbD k = bitL x k := by
  unfold bitL
  rw [Int64.toBitVec_toInt32, BitVec.getLsbD_signExtend, decide_eq_true hk, Bool.true_and, if_pos (by omega)]
theorem bit_ushr (x : Int64) {g k : Nat} (hg : g < 64) (hk : k + g < 64) : bitL ((x.toUInt64 >>> ((nI g).toInt64.toUInt64 &&& Int64.toUInt64 63)).toInt64) k = bitL x (k + g) := by
  obtain ⟨n, h1, h2, h3⟩ := lx_of x
  have hy : ∀ g, g < 64 → ((nI g).toInt64.toUInt64 &&& Int64.toUInt64 63) = UInt64.ofNat g := by decide +kernel
  rw [h3, h2, g_ushr (hy g hg) hg rfl h1]
  have hlt : n / 2 ^ g < 2 ^ 64 := Nat.lt_of_le_of_lt (Nat.div_le_self _ _) h1
  unfold bitL
  show (BitVec.ofNat 64 (n / 2 ^ g)).getLsbD k = _
  rw [BitVec.getLsbD_ofNat, decide_eq_true (by omega), Bool.true_and, Nat.testBit_div_two_pow, Nat.add_comm]
theorem low_bit {x : Int64} (h : x ≠ 0) : ∃ t, t < 64 ∧ bitL x t = true ∧ ∀ j, j < t → bitL x j = false := by
  have key : ∀ n, (∀ j, j < n → bitL x j = false) ∨ ∃ t, t < n ∧ bitL x t = true ∧ ∀ j, j < t → bitL x j = false := by
    intro n
    induction n with
    | zero => exact Or.inl (fun j hj => absurd hj (Nat.not_lt_zero _))
    | succ n ih =>
      rcases ih with i | ⟨t, i1, i2⟩
      · cases hb : bitL x n with
        | true => exact Or.inr ⟨n, Nat.lt_succ_self _, hb, i⟩
        | false =>
          refine Or.inl (fun j hj => ?_)
          by_cases z : j = n
          · rw [z]; exact hb
          · exact i j (by omega)
      · exact Or.inr ⟨t, by omega, i2⟩
  rcases key 64 with i | i
  · exact absurd (bitL_ext i) h
  · exact i
theorem v_288 {S : XSc} {d : Nat} {h : XH} {Q : XO → XH → Prop} {x : Int64} (hx : x ≠ 0) (k : ∀ t, t < 64 → bitL x t = true → (∀ j, j < t → bitL x j = false) → Q (.inl (some (.int (nI t)))) h) : xP S (d + 1) 288 0 [(0, .long x)] [] h Q := by
  obtain ⟨t, t1, t2, t3⟩ := low_bit hx
  refine xs_f 1 r_288_0 rfl ?_
  refine xs_f 2 r_288_1 rfl ?_
  refine xs_f 3 (lv2 := [(2, _), (0, _)]) r_288_2 rfl ?_
  refine xs_f 4 r_288_3 rfl ?_
  refine xs_if 7 21 r_288_4 rfl (fun hz => ?_) (fun hz => ?_)
  · have ht : 32 ≤ t := by
      rcases Nat.lt_or_ge t 32 with y | y
      · have e := bit_l2i x y
        rw [hz, t2] at e
        have e2 : (0 : Int32).toBitVec.getLsbD t = false := BitVec.getLsbD_zero
        rw [e2] at e
        cases e
      · exact y
    refine xs_f 9 r_288_7 rfl ?_
    refine xs_f 10 r_288_9 rfl ?_
    refine xs_f 12 r_288_10 rfl ?_
    refine xs_f 13 r_288_12 rfl ?_
    refine xs_f 14 r_288_13 rfl ?_
    refine xs_call (lv2 := [(0, _)]) r_288_14 rfl rfl (by decide) (xcan_1 rfl) rfl (v_289 (t := t - 32) (by omega) ((bit_l2i _ (by omega)).trans ((bit_ushr x (g := 32) (by omega) (by omega)).trans (by rw [show t - 32 + 32 = t by omega]; exact t2))) (fun j hj => (bit_l2i _ (by omega)).trans ((bit_ushr x (g := 32) (by omega) (by omega)).trans (t3 _ (by omega)))) ?_)
    refine xK_v rfl ?_
    refine xs_f 18 r_288_17 rfl ?_
    refine xs_f 25 r_288_18 rfl ?_
    refine xs_ret r_288_25 rfl ?_
    exact xq_int (k t t1 t2 t3) ((nI_addE (nI_k 32) rfl).trans (congrArg nI (by omega)))
  · have ht : t < 32 := by
      rcases Nat.lt_or_ge t 32 with y | y
      · exact y
      · refine absurd ?_ hz
        apply Int32.toBitVec_inj.mp
        apply BitVec.eq_of_getLsbD_eq
        intro j hj
        rw [bit_l2i x hj, t3 j (by omega)]
        exact BitVec.getLsbD_zero.symm
    refine xs_f 22 r_288_21 rfl ?_
    refine xs_call (lv2 := [(0, _)]) r_288_22 rfl rfl (by decide) (xcan_1 rfl) rfl (v_289 (t := t) ht ((bit_l2i x ht).trans t2) (fun j hj => (bit_l2i x (by omega)).trans (t3 j hj)) ?_)
    refine xK_v rfl ?_
    refine xs_ret r_288_25 rfl ?_
    exact k t t1 t2 t3

theorem u_sh : ∀ g, g < 64 → ((nI g).toInt64.toUInt64 &&& Int64.toUInt64 63) = UInt64.ofNat g := by decide +kernel
theorem lN_ushr {n g : Nat} {p : Nat} (hg : g < 64) (hp : 2 ^ g = p) (hn : n < 2 ^ 64) : ((lN n).toUInt64 >>> ((nI g).toInt64.toUInt64 &&& Int64.toUInt64 63)).toInt64 = lN (n / p) := g_ushr (u_sh g hg) hg hp hn
theorem nI_127 (a : Nat) : nI a &&& nI 127 = nI (a % 128) := by
  rw [show a % 128 = a &&& 127 from (Nat.and_two_pow_sub_one_eq_mod a 7).symm]
  apply Int32.toBitVec_inj.1
  show BitVec.ofNat 32 a &&& BitVec.ofNat 32 127 = BitVec.ofNat 32 (a &&& 127)
  apply BitVec.eq_of_getLsbD_eq
  intro i hi
  simp [hi]
theorem bits_long (x : Int64) : ∃ n, n < 2 ^ 64 ∧ x = lN n ∧ spc 8 n = cntB (bitL x) 64 := by
  obtain ⟨n, h1, h2, h3⟩ := lx_of x
  exact ⟨n, h1, h2, (spc_cnt 8 n).trans (cntB_cong (fun i _ => (h3 i).symm))⟩
theorem rep_85 : rep 85 8 = 6148914691236517205 := by decide +kernel
theorem rep_51 : rep 51 8 = 3689348814741910323 := by decide +kernel
theorem rep_15 : rep 15 8 = 1085102592571150095 := by decide +kernel
theorem bc_step1 {n : Nat} (hn : n < 2 ^ 64) : lN n - (((lN n).toUInt64 >>> ((nI 1).toInt64.toUInt64 &&& Int64.toUInt64 63)).toInt64 &&& 6148914691236517205) = lN (bc1 8 n) := by
  rw [lN_ushr (g := 1) (p := 2) (by omega) rfl hn]
  have hm : (6148914691236517205 : Int64) = lN (rep 85 8) := by rw [rep_85]; rfl
  have hr : rep 85 8 < 2 ^ 64 := by rw [rep_85]; omega
  rw [hm, g_and (by omega) hr rfl]
  exact lN_sub (Nat.le_trans Nat.and_le_left (by omega))
theorem bc_step2 {n : Nat} (hn : n < 2 ^ 64) : (lN n &&& 3689348814741910323) + (((lN n).toUInt64 >>> ((nI 2).toInt64.toUInt64 &&& Int64.toUInt64 63)).toInt64 &&& 3689348814741910323) = lN (bc2 8 n) := by
  rw [lN_ushr (g := 2) (p := 4) (by omega) rfl hn]
  have hm : (3689348814741910323 : Int64) = lN (rep 51 8) := by rw [rep_51]; rfl
  have hr : rep 51 8 < 2 ^ 64 := by rw [rep_51]; omega
  rw [hm, g_and hn hr rfl, g_and (by omega) hr rfl, lN_add]
  rfl
theorem bc_step3 {n : Nat} (hn : n + n / 16 < 2 ^ 64) : (lN n + ((lN n).toUInt64 >>> ((nI 4).toInt64.toUInt64 &&& Int64.toUInt64 63)).toInt64) &&& 1085102592571150095 = lN (bc3 8 n) := by
  rw [lN_ushr (g := 4) (p := 16) (by omega) rfl (by omega), lN_add]
  have hm : (1085102592571150095 : Int64) = lN (rep 15 8) := by rw [rep_15]; rfl
  have hr : rep 15 8 < 2 ^ 64 := by rw [rep_15]; omega
  rw [hm, g_and hn hr rfl]
  rfl
theorem bc2_le (a : Nat) : bc2 8 a ≤ 2 * 3689348814741910323 := by
  unfold bc2
  rw [rep_51]
  have h1 : a &&& 3689348814741910323 ≤ 3689348814741910323 := Nat.and_le_right
  have h2 : a / 4 &&& 3689348814741910323 ≤ 3689348814741910323 := Nat.and_le_right
  omega
theorem bc1_le (n : Nat) : bc1 8 n ≤ n := Nat.sub_le _ _
theorem bc_add {n g p : Nat} (hg : g < 64) (hp : 2 ^ g = p) (hn : n < 2 ^ 64) : lN n + ((lN n).toUInt64 >>> ((nI g).toInt64.toUInt64 &&& Int64.toUInt64 63)).toInt64 = lN (n + n / p) := by
  rw [lN_ushr hg hp hn, lN_add]
theorem v_287 {S : XSc} {d : Nat} {h : XH} {Q : XO → XH → Prop} {x : Int64} (k : Q (.inl (some (.int (nI (cntB (bitL x) 64))))) h) : xP S d 287 0 [(0, .long x)] [] h Q := by
  obtain ⟨n, h1, h2, h3⟩ := bits_long x
  rw [← h3] at k
  subst h2
  have b1 := bc1_le n
  have b2 := bc2_le (bc1 8 n)
  have b3 := bc_all 8 n
  have b4 := bpc_lt 8 n
  have b5 : bpc 8 n * 16 < 18446744073709551616 := b4
  have e1 := bc_step1 h1
  have e2 := bc_step2 (n := bc1 8 n) (by omega)
  have e3 := bc_step3 (n := bc2 8 (bc1 8 n)) (by omega)
  rw [b3] at e3
  have e4 := bc_add (n := bpc 8 n) (g := 8) (p := 256) (by omega) rfl (by omega)
  have e5 := bc_add (n := bpc 8 n + bpc 8 n / 256) (g := 16) (p := 65536) (by omega) rfl (by omega)
  have e6 := bc_add (n := bpc 8 n + bpc 8 n / 256 + (bpc 8 n + bpc 8 n / 256) / 65536) (g := 32) (p := 4294967296) (by omega) rfl (by omega)
  refine xs_f 1 r_287_0 rfl ?_
  refine xs_f 2 r_287_1 rfl ?_
  refine xs_f 3 r_287_2 rfl ?_
  refine xs_f 4 r_287_3 rfl ?_
  refine xs_f 7 r_287_4 rfl ?_
  refine xs_f 8 r_287_7 rfl ?_
  refine xs_f 9 r_287_8 rfl ?_
  refine xs_f 10 (lv2 := [(0, _)]) r_287_9 rfl ?_
  refine xP_lv [(0, .long (lN (bc1 8 n)))] rfl ⟨(by rw [← e1]; rfl), trivial⟩ ?_
  refine xs_f 11 r_287_10 rfl ?_
  refine xs_f 14 r_287_11 rfl ?_
  refine xs_f 15 r_287_14 rfl ?_
  refine xs_f 16 r_287_15 rfl ?_
  refine xs_f 17 r_287_16 rfl ?_
  refine xs_f 18 r_287_17 rfl ?_
  refine xs_f 21 r_287_18 rfl ?_
  refine xs_f 22 r_287_21 rfl ?_
  refine xs_f 23 r_287_22 rfl ?_
  refine xs_f 24 (lv2 := [(0, _)]) r_287_23 rfl ?_
  refine xP_lv [(0, .long (lN (bc2 8 (bc1 8 n))))] rfl ⟨(by rw [← e2]; rfl), trivial⟩ ?_
  refine xs_f 25 r_287_24 rfl ?_
  refine xs_f 26 r_287_25 rfl ?_
  refine xs_f 27 r_287_26 rfl ?_
  refine xs_f 28 r_287_27 rfl ?_
  refine xs_f 29 r_287_28 rfl ?_
  refine xs_f 32 r_287_29 rfl ?_
  refine xs_f 33 r_287_32 rfl ?_
  refine xs_f 34 (lv2 := [(0, _)]) r_287_33 rfl ?_
  refine xP_lv [(0, .long (lN (bpc 8 n)))] rfl ⟨(by rw [← e3]; rfl), trivial⟩ ?_
  refine xs_f 35 r_287_34 rfl ?_
  refine xs_f 36 r_287_35 rfl ?_
  refine xs_f 38 r_287_36 rfl ?_
  refine xs_f 39 r_287_38 rfl ?_
  refine xs_f 40 r_287_39 rfl ?_
  refine xs_f 41 (lv2 := [(0, _)]) r_287_40 rfl ?_
  refine xP_lv [(0, .long (lN (bpc 8 n + bpc 8 n / 256)))] rfl ⟨(by rw [← e4]; rfl), trivial⟩ ?_
  refine xs_f 42 r_287_41 rfl ?_
  refine xs_f 43 r_287_42 rfl ?_
  refine xs_f 45 r_287_43 rfl ?_
  refine xs_f 46 r_287_45 rfl ?_
  refine xs_f 47 r_287_46 rfl ?_
  refine xs_f 48 (lv2 := [(0, _)]) r_287_47 rfl ?_
  refine xP_lv [(0, .long (lN (bpc 8 n + bpc 8 n / 256 + (bpc 8 n + bpc 8 n / 256) / 65536)))] rfl ⟨(by rw [← e5]; rfl), trivial⟩ ?_
  refine xs_f 49 r_287_48 rfl ?_
  refine xs_f 50 r_287_49 rfl ?_
  refine xs_f 52 r_287_50 rfl ?_
  refine xs_f 53 r_287_52 rfl ?_
  refine xs_f 54 r_287_53 rfl ?_
  refine xs_f 55 (lv2 := [(0, _)]) r_287_54 rfl ?_
  refine xP_lv [(0, .long (lN (bpc 8 n + bpc 8 n / 256 + (bpc 8 n + bpc 8 n / 256) / 65536 + (bpc 8 n + bpc 8 n / 256 + (bpc 8 n + bpc 8 n / 256) / 65536) / 4294967296)))] rfl ⟨(by rw [← e6]; rfl), trivial⟩ ?_
  refine xs_f 56 r_287_55 rfl ?_
  refine xs_f 57 r_287_56 rfl ?_
  refine xs_f 59 r_287_57 rfl ?_
  refine xs_f 60 r_287_59 rfl ?_
  refine xs_ret r_287_60 rfl ?_
  refine xq_int k ?_
  show (lN _).toInt32 &&& nI 127 = _
  rw [lN_i, nI_127, bpc_sum]

