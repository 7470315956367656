/-! counting bits, and the lowest bit; u_tn, g_and, g_ushr are the laws' -/
theorem u_tn {n : Nat} (h : n < 2 ^ 64) : (UInt64.ofNat n).toNat = n := Nat.mod_eq_of_lt h
theorem g_and {a b c : Nat} (ha : a < 2 ^ 64) (hb : b < 2 ^ 64) (hc : a &&& b = c) : lN a &&& lN b = lN c := by
  subst hc
  have h : UInt64.ofNat a &&& UInt64.ofNat b = UInt64.ofNat (a &&& b) := UInt64.toNat_inj.mp (by rw [UInt64.toNat_and, u_tn ha, u_tn hb, u_tn (Nat.and_lt_two_pow a hb)])
  have h2 := congrArg UInt64.toInt64 h
  exact h2
theorem g_ushr {a k p : Nat} {y : UInt64} (hy : y = UInt64.ofNat k) (hk : k < 64) (hp : 2 ^ k = p) (ha : a < 2 ^ 64) : ((lN a).toUInt64 >>> y).toInt64 = lN (a / p) := by
  subst hy hp
  have h : UInt64.ofNat a >>> UInt64.ofNat k = UInt64.ofNat (a / 2 ^ k) := UInt64.toNat_inj.mp (by rw [UInt64.toNat_shiftRight, u_tn ha, u_tn (by omega), u_tn (Nat.lt_of_le_of_lt (Nat.div_le_self _ _) ha), Nat.mod_eq_of_lt hk, Nat.shiftRight_eq_div_pow])
  have h2 := congrArg UInt64.toInt64 h
  exact h2
theorem lx_of (x : Int64) : ∃ n, n < 2 ^ 64 ∧ x = lN n ∧ ∀ k, bitL x k = n.testBit k := by
  refine ⟨x.toBitVec.toNat, x.toBitVec.isLt, ?_, fun k => ?_⟩
  · apply Int64.toBitVec_inj.mp
    show x.toBitVec = BitVec.ofNat 64 x.toBitVec.toNat
    rw [BitVec.ofNat_toNat, BitVec.setWidth_eq]
  · unfold bitL
    rw [← BitVec.testBit_toNat]
def rep (d : Nat) : Nat → Nat
  | 0 => 0
  | k + 1 => 256 * rep d k + d
theorem and_256 {x y u v : Nat} (hy : y < 256) (hv : v < 256) : (256 * x + y) &&& (256 * u + v) = 256 * (x &&& u) + (y &&& v) := by
  have hyv : y &&& v < 2 ^ 8 := Nat.lt_of_le_of_lt Nat.and_le_left hy
  apply Nat.eq_of_testBit_eq
  intro i
  rw [Nat.testBit_and, show (256 : Nat) = 2 ^ 8 from rfl, Nat.testBit_two_pow_mul_add _ hy, Nat.testBit_two_pow_mul_add _ hv, Nat.testBit_two_pow_mul_add _ hyv]
  split
  · rw [Nat.testBit_and]
  · rw [Nat.testBit_and]
theorem rep_s {d k : Nat} : rep d (k + 1) = 256 * rep d k + d := rfl
def bc1 (k n : Nat) : Nat := n - (n / 2 &&& rep 85 k)
def bc2 (k a : Nat) : Nat := (a &&& rep 51 k) + (a / 4 &&& rep 51 k)
def bc3 (k a : Nat) : Nat := (a + a / 16) &&& rep 15 k
def bg1 (b : Nat) : Nat := b - (b / 2 &&& 85)
def bg2 (c : Nat) : Nat := (c &&& 51) + (c / 4 &&& 51)
def bg3 (c : Nat) : Nat := (c + c / 16) &&& 15
def pc8 (b : Nat) : Nat := cntB (fun i => b.testBit i) 8
theorem b_and : ∀ y, y < 2 → ∀ b, b < 128 → (y * 128 + b &&& 85) = (b &&& 85) := by decide +kernel
theorem b_and2 : ∀ y, y < 4 → ∀ b, b < 64 → (y * 64 + b &&& 51) = (b &&& 51) := by decide +kernel
theorem bg_all : ∀ b, b < 256 → bg1 b < 256 ∧ bg2 (bg1 b) ≤ 68 ∧ bg2 (bg1 b) % 16 ≤ 4 ∧ bg3 (bg2 (bg1 b)) = pc8 b ∧ pc8 b ≤ 8 := by decide +kernel
theorem bc1_s (k q b : Nat) (hb : b < 256) : bc1 (k + 1) (256 * q + b) = 256 * bc1 k q + bg1 b := by
  unfold bc1 bg1
  rw [rep_s]
  have e : (256 * q + b) / 2 = 256 * (q / 2) + ((q % 2) * 128 + b / 2) := by omega
  rw [e, and_256 (by omega) (by omega), b_and _ (by omega) _ (by omega)]
  have h1 : q / 2 &&& rep 85 k ≤ q / 2 := Nat.and_le_left
  have h2 : b / 2 &&& 85 ≤ b / 2 := Nat.and_le_left
  omega
theorem bc2_s (k p c : Nat) (hc : c < 256) : bc2 (k + 1) (256 * p + c) = 256 * bc2 k p + bg2 c := by
  unfold bc2 bg2
  rw [rep_s]
  have e : (256 * p + c) / 4 = 256 * (p / 4) + ((p % 4) * 64 + c / 4) := by omega
  rw [e, and_256 hc (by omega), and_256 (by omega) (by omega), b_and2 _ (by omega) _ (by omega)]
  omega
theorem bc3_s (k p c : Nat) (hc : c ≤ 68) (hp : p % 16 ≤ 4) : bc3 (k + 1) (256 * p + c) = 256 * bc3 k p + bg3 c := by
  unfold bc3 bg3
  rw [rep_s]
  have e : 256 * p + c + (256 * p + c) / 16 = 256 * (p + p / 16) + (16 * (p % 16) + (c + c / 16)) := by omega
  rw [e, and_256 (by omega) (by omega)]
  have e2 : 16 * (p % 16) + (c + c / 16) &&& 15 = (c + c / 16) &&& 15 := by
    rw [Nat.and_two_pow_sub_one_eq_mod _ 4, Nat.and_two_pow_sub_one_eq_mod _ 4]
    omega
  rw [e2]
/-- the bytes' counts -/
def bpc : Nat → Nat → Nat
  | 0, _ => 0
  | k + 1, n => 256 * bpc k (n / 256) + pc8 (n % 256)
theorem bc12_low : ∀ k n, bc2 k (bc1 k n) % 16 ≤ 4
  | 0, n => by
    have e : bc2 0 (bc1 0 n) = 0 := by unfold bc2 rep; rw [Nat.and_zero, Nat.and_zero]
    rw [e]; decide
  | k + 1, n => by
    have hb : n % 256 < 256 := Nat.mod_lt _ (by omega)
    obtain ⟨h1, h2, h3, h4, h5⟩ := bg_all _ hb
    have e : n = 256 * (n / 256) + n % 256 := (Nat.div_add_mod n 256).symm
    rw [e, bc1_s _ _ _ hb, bc2_s _ _ _ h1]
    omega
theorem bc_all : ∀ k n, bc3 k (bc2 k (bc1 k n)) = bpc k n
  | 0, n => by unfold bc3 rep bpc; rw [Nat.and_zero]
  | k + 1, n => by
    have hb : n % 256 < 256 := Nat.mod_lt _ (by omega)
    obtain ⟨h1, h2, h3, h4, h5⟩ := bg_all _ hb
    have e : n = 256 * (n / 256) + n % 256 := (Nat.div_add_mod n 256).symm
    have i := bc_all k (n / 256)
    show _ = 256 * bpc k (n / 256) + pc8 (n % 256)
    rw [show bc1 (k + 1) n = bc1 (k + 1) (256 * (n / 256) + n % 256) from congrArg _ e, bc1_s _ _ _ hb, bc2_s _ _ _ h1, bc3_s _ _ _ h2 (bc12_low k _), h4, i]
/-- the sum of the bytes' counts -/
def spc : Nat → Nat → Nat
  | 0, _ => 0
  | k + 1, n => spc k (n / 256) + pc8 (n % 256)
theorem cntB_cong {p q : Nat → Bool} : ∀ {n : Nat}, (∀ i, i < n → p i = q i) → cntB p n = cntB q n
  | 0, _ => rfl
  | n + 1, h => by rw [cntB_s, cntB_s, h n (Nat.lt_succ_self _), cntB_cong (fun i hi => h i (by omega))]
theorem cntB_8 (p : Nat → Bool) (m : Nat) : ∀ n, cntB p (m + n) = cntB p m + cntB (fun i => p (m + i)) n
  | 0 => rfl
  | n + 1 => by
    rw [show m + (n + 1) = (m + n) + 1 from rfl, cntB_s, cntB_s, cntB_8 p m n]
    cases p (m + n) <;> simp <;> omega
theorem spc_cnt : ∀ k n, spc k n = cntB (fun i => n.testBit i) (8 * k)
  | 0, n => rfl
  | k + 1, n => by
    show spc k (n / 256) + pc8 (n % 256) = _
    rw [show 8 * (k + 1) = 8 + 8 * k by omega, cntB_8, spc_cnt k (n / 256), Nat.add_comm]
    congr 1
    · unfold pc8
      refine cntB_cong (fun i hi => ?_)
      show (n % 2 ^ 8).testBit i = _
      rw [Nat.testBit_mod_two_pow, decide_eq_true hi, Bool.true_and]
    · refine cntB_cong (fun i hi => ?_)
      show (n / 2 ^ 8).testBit i = _
      rw [Nat.testBit_div_two_pow, Nat.add_comm]
theorem pc8_le (b : Nat) : pc8 b ≤ 8 := cntB_le _ _
theorem bpc_d {d0 d1 d2 d3 d4 d5 d6 d7 U V W Z Y X n3 : Nat} (h0 : d0 ≤ 8) (h1 : d1 ≤ 8) (h2 : d2 ≤ 8) (h3 : d3 ≤ 8) (h4 : d4 ≤ 8) (h5 : d5 ≤ 8) (h6 : d6 ≤ 8) (h7 : d7 ≤ 8) (hU : U = 256 * d7 + d6) (hV : V = 256 * U + d5) (hW : W = 256 * V + d4) (hZ : Z = 256 * W + d3) (hY : Y = 256 * Z + d2) (hX : X = 256 * Y + d1) (hn : n3 = 256 * X + d0) :
    (n3 + n3 / 256 + (n3 + n3 / 256) / 65536 + (n3 + n3 / 256 + (n3 + n3 / 256) / 65536) / 4294967296) % 128 = d0 + d1 + d2 + d3 + d4 + d5 + d6 + d7 := by
  have e1 : n3 / 256 = X := by clear hX hY hZ hW hV hU; omega
  rw [e1]
  obtain ⟨A, hA⟩ : ∃ A, A = n3 + X := ⟨_, rfl⟩
  rw [← hA]
  have a1 : A = 65536 * (Y + Z) + (256 * (d1 + d2) + d0 + d1) := by rw [hA, hn, hX, hY]; clear hA hn hX hY hZ hW hV hU e1; omega
  have e2 : A / 65536 = Y + Z := by clear hA hn hX hY hZ hW hV hU e1; omega
  rw [e2]
  obtain ⟨B, hB⟩ : ∃ B, B = A + (Y + Z) := ⟨_, rfl⟩
  rw [← hB]
  have b0 : Y + Z = 65536 * (W + V) + (256 * (d3 + d4) + (d2 + d3)) := by rw [hY, hZ, hW]; clear hA hn hX hY hZ hW hV hU e1 a1 e2 hB; omega
  have b1 : W + V = 65536 * (U + d7) + (256 * (d5 + d6) + (d4 + d5)) := by rw [hW, hV, hU]; clear hA hn hX hY hZ hW hV hU e1 a1 e2 hB b0; omega
  have b2 : B = 4294967296 * (W + V + (U + d7)) + (65536 * ((256 * (d3 + d4) + (d2 + d3)) + (256 * (d5 + d6) + (d4 + d5))) + (256 * (d3 + d4) + (d2 + d3)) + (256 * (d1 + d2) + d0 + d1)) := by rw [hB, a1]; clear hA hn hX hY hZ hW hV hU e1 a1 e2 hB; omega
  have e3 : B / 4294967296 = W + V + (U + d7) := by clear hA hn hX hY hZ hW hV hU e1 a1 e2 hB b0 b1; omega
  rw [e3, b2, b1]
  clear hA hn hX hY hZ hW hV e1 a1 e2 hB b0 b1 b2 e3
  omega
theorem bpc_sum (n : Nat) : (bpc 8 n + bpc 8 n / 256 + (bpc 8 n + bpc 8 n / 256) / 65536 + (bpc 8 n + bpc 8 n / 256 + (bpc 8 n + bpc 8 n / 256) / 65536) / 4294967296) % 128 = spc 8 n := by
  obtain ⟨q1, g1⟩ : ∃ q, q = n / 256 := ⟨_, rfl⟩
  obtain ⟨q2, g2⟩ : ∃ q, q = q1 / 256 := ⟨_, rfl⟩
  obtain ⟨q3, g3⟩ : ∃ q, q = q2 / 256 := ⟨_, rfl⟩
  obtain ⟨q4, g4⟩ : ∃ q, q = q3 / 256 := ⟨_, rfl⟩
  obtain ⟨q5, g5⟩ : ∃ q, q = q4 / 256 := ⟨_, rfl⟩
  obtain ⟨q6, g6⟩ : ∃ q, q = q5 / 256 := ⟨_, rfl⟩
  obtain ⟨q7, g7⟩ : ∃ q, q = q6 / 256 := ⟨_, rfl⟩
  have s1 : bpc 1 q7 = pc8 (q7 % 256) := by show 256 * 0 + _ = _; omega
  have hb : bpc 8 n = 256 * bpc 7 q1 + pc8 (n % 256) := by rw [g1]; rfl
  have hb7 : bpc 7 q1 = 256 * bpc 6 q2 + pc8 (q1 % 256) := by rw [g2]; rfl
  have hb6 : bpc 6 q2 = 256 * bpc 5 q3 + pc8 (q2 % 256) := by rw [g3]; rfl
  have hb5 : bpc 5 q3 = 256 * bpc 4 q4 + pc8 (q3 % 256) := by rw [g4]; rfl
  have hb4 : bpc 4 q4 = 256 * bpc 3 q5 + pc8 (q4 % 256) := by rw [g5]; rfl
  have hb3 : bpc 3 q5 = 256 * bpc 2 q6 + pc8 (q5 % 256) := by rw [g6]; rfl
  have hb2 : bpc 2 q6 = 256 * pc8 (q7 % 256) + pc8 (q6 % 256) := by rw [← s1, g7]; rfl
  have hs : spc 8 n = pc8 (n % 256) + pc8 (q1 % 256) + pc8 (q2 % 256) + pc8 (q3 % 256) + pc8 (q4 % 256) + pc8 (q5 % 256) + pc8 (q6 % 256) + pc8 (q7 % 256) := by
    rw [g7, g6, g5, g4, g3, g2, g1]
    show 0 + _ + _ + _ + _ + _ + _ + _ + _ = _
    omega
  rw [hs]
  exact bpc_d (pc8_le _) (pc8_le _) (pc8_le _) (pc8_le _) (pc8_le _) (pc8_le _) (pc8_le _) (pc8_le _) hb2 hb3 hb4 hb5 hb6 hb7 hb
theorem bpc_lt : ∀ k n, bpc k n * 16 < 256 ^ k
  | 0, n => by show 0 * 16 < 1; omega
  | k + 1, n => by
    have i := bpc_lt k (n / 256)
    have h := pc8_le (n % 256)
    show (256 * bpc k (n / 256) + pc8 (n % 256)) * 16 < 256 ^ (k + 1)
    rw [Nat.pow_succ]
    omega
