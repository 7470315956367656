/-! small things of the class: estimates, bins, players, questions -/
abbrev XEst : Type := Int32 × (Int32 × (Int32 × (Int32 × Int32)))
/-- what an estimate's cell holds: player, low, high, confidence, stake -/
abbrev eL (e : XEst) : List Value := [.int e.1, .int e.2.1, .int e.2.2.1, .int e.2.2.2.1, .int e.2.2.2.2]
abbrev xconf (c : Int32) : Prop := 1 ≤ c ∧ c ≤ 9
theorem xconf_nI {c : Int32} (h : xconf c) : ∃ j, 1 ≤ j ∧ j ≤ 9 ∧ c = nI j := by
  obtain ⟨j, h1, rfl⟩ := nI_of2 (M := 9) (n := 9) rfl (fun q => by
    have h1 := Int32.le_iff_toInt_le.mp h.1
    have h2 := Int32.lt_iff_toInt_lt.mp q
    simp at h1 h2
    omega) h.2
  refine ⟨j, ?_, h1, rfl⟩
  have := (nI_leI (a := 1) (by omega) (by omega)).mp h.1
  exact this
theorem xconf_j {j : Nat} (h1 : 1 ≤ j) (h2 : j ≤ 9) : xconf (nI j) := ⟨nI_le (a := 1) h1 (by omega), nI_le (b := 9) h2 (by omega)⟩
theorem xconf_ne {c : Int32} (h : xconf c) : c ≠ 0 ∧ (10 : Int32) - c ≠ 0 := by
  obtain ⟨j, h1, h2, rfl⟩ := xconf_nI h
  refine ⟨fun z => ?_, fun z => ?_⟩
  · have := (nI_eq (a := j) (b := 0) (by omega) (by omega)).mp z
    omega
  · have e : (10 : Int32) - nI j = nI (10 - j) := nI_subE (a := 10) rfl rfl (by omega)
    rw [e] at z
    have := (nI_eq (a := 10 - j) (b := 0) (by omega) (by omega)).mp z
    omega
def xsum (f : Nat → Int32) : Nat → Int32
  | 0 => 0
  | n + 1 => xsum f n + f n
def bI (b : Bool) : Int32 := bif b then 1 else 0
theorem bI_fit (b : Bool) : xfit 1 (.int (bI b)) = true := by cases b <;> rfl
theorem bI_ret (b : Bool) : xrI 1 [.int (bI b)] = some (some (.int (bI b))) := by cases b <;> rfl
theorem bI_0 (b : Bool) : bI b = 0 ↔ b = false := by cases b <;> decide
theorem xq_int {Q : XO → XH → Prop} {h : XH} {a b : Int32} (k : Q (.inl (some (.int b))) h) (e : a = b) : Q (.inl (some (.int a))) h := by rw [e]; exact k
theorem c_137 {S : XSc} {d : Nat} {h : XH} {Q : XO → XH → Prop} {c : Int32} (k1 : xconf c → Q (.inl (some (.int 1))) h) (k0 : ¬ xconf c → Q (.inl (some (.int 0))) h) : xP S d 137 0 [(0, .int c)] [] h Q := by
  refine xs_f 1 r_137_0 rfl ?_
  refine xs_f 2 r_137_1 rfl ?_
  refine xs_if 15 5 r_137_2 rfl (fun hc1 => ?_) (fun hc1 => ?_)
  · refine xs_f 16 r_137_15 rfl ?_
    refine xs_ret r_137_16 rfl ?_
    first | exact k1 ⟨Int32.not_lt.mp hc1, Int32.not_lt.mp hc2⟩ | exact k0 (fun q => absurd hc1 (Int32.not_lt.mpr q.1)) | exact k0 (fun q => absurd hc2 (Int32.not_lt.mpr q.2))
  · refine xs_f 6 r_137_5 rfl ?_
    refine xs_f 8 r_137_6 rfl ?_
    refine xs_if 15 11 r_137_8 rfl (fun hc2 => ?_) (fun hc2 => ?_)
    · refine xs_f 16 r_137_15 rfl ?_
      refine xs_ret r_137_16 rfl ?_
      first | exact k1 ⟨Int32.not_lt.mp hc1, Int32.not_lt.mp hc2⟩ | exact k0 (fun q => absurd hc1 (Int32.not_lt.mpr q.1)) | exact k0 (fun q => absurd hc2 (Int32.not_lt.mpr q.2))
    · refine xs_f 12 r_137_11 rfl ?_
      refine xs_f 16 r_137_12 rfl ?_
      refine xs_ret r_137_16 rfl ?_
      first | exact k1 ⟨Int32.not_lt.mp hc1, Int32.not_lt.mp hc2⟩ | exact k0 (fun q => absurd hc1 (Int32.not_lt.mpr q.1)) | exact k0 (fun q => absurd hc2 (Int32.not_lt.mpr q.2))

abbrev xval (c : Int32) : Prop := 0 ≤ c ∧ c ≤ 999
theorem c_136 {S : XSc} {d : Nat} {h : XH} {Q : XO → XH → Prop} {c : Int32} (k1 : xval c → Q (.inl (some (.int 1))) h) (k0 : ¬ xval c → Q (.inl (some (.int 0))) h) : xP S d 136 0 [(0, .int c)] [] h Q := by
  refine xs_f 1 r_136_0 rfl ?_
  refine xs_if 15 4 r_136_1 rfl (fun hc1 => ?_) (fun hc1 => ?_)
  · refine xs_f 16 r_136_15 rfl ?_
    refine xs_ret r_136_16 rfl ?_
    first | exact k1 ⟨Int32.not_lt.mp hc1, Int32.not_lt.mp hc2⟩ | exact k0 (fun q => absurd hc1 (Int32.not_lt.mpr q.1)) | exact k0 (fun q => absurd hc2 (Int32.not_lt.mpr q.2))
  · refine xs_f 5 r_136_4 rfl ?_
    refine xs_f 8 r_136_5 rfl ?_
    refine xs_if 15 11 r_136_8 rfl (fun hc2 => ?_) (fun hc2 => ?_)
    · refine xs_f 16 r_136_15 rfl ?_
      refine xs_ret r_136_16 rfl ?_
      first | exact k1 ⟨Int32.not_lt.mp hc1, Int32.not_lt.mp hc2⟩ | exact k0 (fun q => absurd hc1 (Int32.not_lt.mpr q.1)) | exact k0 (fun q => absurd hc2 (Int32.not_lt.mpr q.2))
    · refine xs_f 12 r_136_11 rfl ?_
      refine xs_f 16 r_136_12 rfl ?_
      refine xs_ret r_136_16 rfl ?_
      first | exact k1 ⟨Int32.not_lt.mp hc1, Int32.not_lt.mp hc2⟩ | exact k0 (fun q => absurd hc1 (Int32.not_lt.mpr q.1)) | exact k0 (fun q => absurd hc2 (Int32.not_lt.mpr q.2))

theorem c_58 {S : XSc} {d : Nat} {h : XH} {Q : XO → XH → Prop} {a : Nat} {e : XEst} {p lo hi c s : Int32} (hE : h.1 a = some (.inr (4, eL e))) (k : ∀ f, f a = some (.inr (4, eL (p, (lo, (hi, (c, s)))))) → Fr h.1 f a (a + 1) → Q (.inl none) (f, h.2)) : xP S d 58 0 [(0, .ref a), (1, .int p), (2, .int lo), (3, .int hi), (4, .int c), (5, .int s)] [] h Q := by
  refine xs_f 1 r_58_0 rfl ?_
  refine xs_f 2 r_58_1 rfl ?_
  refine xs_put 5 r_58_2 rfl (by first | assumption | exact xup_s | (refine (xup_n (by omega)).trans ?_; first | assumption | exact xup_s) | (refine (xup_n (by omega)).trans ((xup_n (by omega)).trans ?_); first | assumption | exact xup_s) | (refine (xup_n (by omega)).trans ((xup_n (by omega)).trans ((xup_n (by omega)).trans ?_)); first | assumption | exact xup_s)) (by rfl) (by rfl) ?_
  refine xs_f 6 r_58_5 rfl ?_
  refine xs_f 7 r_58_6 rfl ?_
  refine xs_put 10 r_58_7 rfl (by first | assumption | exact xup_s | (refine (xup_n (by omega)).trans ?_; first | assumption | exact xup_s) | (refine (xup_n (by omega)).trans ((xup_n (by omega)).trans ?_); first | assumption | exact xup_s) | (refine (xup_n (by omega)).trans ((xup_n (by omega)).trans ((xup_n (by omega)).trans ?_)); first | assumption | exact xup_s)) (by rfl) (by rfl) ?_
  refine xs_f 11 r_58_10 rfl ?_
  refine xs_f 12 r_58_11 rfl ?_
  refine xs_put 15 r_58_12 rfl (by first | assumption | exact xup_s | (refine (xup_n (by omega)).trans ?_; first | assumption | exact xup_s) | (refine (xup_n (by omega)).trans ((xup_n (by omega)).trans ?_); first | assumption | exact xup_s) | (refine (xup_n (by omega)).trans ((xup_n (by omega)).trans ((xup_n (by omega)).trans ?_)); first | assumption | exact xup_s)) (by rfl) (by rfl) ?_
  refine xs_f 16 r_58_15 rfl ?_
  refine xs_f 18 r_58_16 rfl ?_
  refine xs_put 21 r_58_18 rfl (by first | assumption | exact xup_s | (refine (xup_n (by omega)).trans ?_; first | assumption | exact xup_s) | (refine (xup_n (by omega)).trans ((xup_n (by omega)).trans ?_); first | assumption | exact xup_s) | (refine (xup_n (by omega)).trans ((xup_n (by omega)).trans ((xup_n (by omega)).trans ?_)); first | assumption | exact xup_s)) (by rfl) (by rfl) ?_
  refine xs_f 22 r_58_21 rfl ?_
  refine xs_f 24 r_58_22 rfl ?_
  refine xs_put 27 r_58_24 rfl (by first | assumption | exact xup_s | (refine (xup_n (by omega)).trans ?_; first | assumption | exact xup_s) | (refine (xup_n (by omega)).trans ((xup_n (by omega)).trans ?_); first | assumption | exact xup_s) | (refine (xup_n (by omega)).trans ((xup_n (by omega)).trans ((xup_n (by omega)).trans ?_)); first | assumption | exact xup_s)) (by rfl) (by rfl) ?_
  refine xs_ret r_58_27 rfl ?_
  exact k _ xup_s (((((Fr.up (Nat.le_refl _) (Nat.lt_succ_self _)).tr (Fr.up (Nat.le_refl _) (Nat.lt_succ_self _))).tr (Fr.up (Nat.le_refl _) (Nat.lt_succ_self _))).tr (Fr.up (Nat.le_refl _) (Nat.lt_succ_self _))).tr (Fr.up (Nat.le_refl _) (Nat.lt_succ_self _)))

theorem c_59 {S : XSc} {d : Nat} {h : XH} {Q : XO → XH → Prop} {a b : Nat} {e1 e2 : XEst} (hE : h.1 a = some (.inr (4, eL e1))) (hF : h.1 b = some (.inr (4, eL e2))) (k : ∀ f, f a = some (.inr (4, eL e2)) → Fr h.1 f a (a + 1) → Q (.inl none) (f, h.2)) : xP S (d + 1) 59 0 [(0, .ref a), (1, .ref b)] [] h Q := by
  refine xs_f 1 r_59_0 rfl ?_
  refine xs_f 2 r_59_1 rfl ?_
  refine xs_get 5 r_59_2 rfl rfl (by first | assumption | exact xup_s | (refine (xup_n (by omega)).trans ?_; first | assumption | exact xup_s) | (refine (xup_n (by omega)).trans ((xup_n (by omega)).trans ?_); first | assumption | exact xup_s) | (refine (xup_n (by omega)).trans ((xup_n (by omega)).trans ((xup_n (by omega)).trans ?_)); first | assumption | exact xup_s)) (by rfl) ?_
  refine xs_f 6 r_59_5 rfl ?_
  refine xs_get 9 r_59_6 rfl rfl (by first | assumption | exact xup_s | (refine (xup_n (by omega)).trans ?_; first | assumption | exact xup_s) | (refine (xup_n (by omega)).trans ((xup_n (by omega)).trans ?_); first | assumption | exact xup_s) | (refine (xup_n (by omega)).trans ((xup_n (by omega)).trans ((xup_n (by omega)).trans ?_)); first | assumption | exact xup_s)) (by rfl) ?_
  refine xs_f 10 r_59_9 rfl ?_
  refine xs_get 13 r_59_10 rfl rfl (by first | assumption | exact xup_s | (refine (xup_n (by omega)).trans ?_; first | assumption | exact xup_s) | (refine (xup_n (by omega)).trans ((xup_n (by omega)).trans ?_); first | assumption | exact xup_s) | (refine (xup_n (by omega)).trans ((xup_n (by omega)).trans ((xup_n (by omega)).trans ?_)); first | assumption | exact xup_s)) (by rfl) ?_
  refine xs_f 14 r_59_13 rfl ?_
  refine xs_get 17 r_59_14 rfl rfl (by first | assumption | exact xup_s | (refine (xup_n (by omega)).trans ?_; first | assumption | exact xup_s) | (refine (xup_n (by omega)).trans ((xup_n (by omega)).trans ?_); first | assumption | exact xup_s) | (refine (xup_n (by omega)).trans ((xup_n (by omega)).trans ((xup_n (by omega)).trans ?_)); first | assumption | exact xup_s)) (by rfl) ?_
  refine xs_f 18 r_59_17 rfl ?_
  refine xs_get 21 r_59_18 rfl rfl (by first | assumption | exact xup_s | (refine (xup_n (by omega)).trans ?_; first | assumption | exact xup_s) | (refine (xup_n (by omega)).trans ((xup_n (by omega)).trans ?_); first | assumption | exact xup_s) | (refine (xup_n (by omega)).trans ((xup_n (by omega)).trans ((xup_n (by omega)).trans ?_)); first | assumption | exact xup_s)) (by rfl) ?_
  refine xs_call (lv2 := [(0, _), (1, _), (2, _), (3, _), (4, _), (5, _)]) r_59_21 rfl rfl (by decide) (xcan_0 rfl rfl (by first | assumption | exact xup_s | (refine (xup_n (by omega)).trans ?_; first | assumption | exact xup_s) | (refine (xup_n (by omega)).trans ((xup_n (by omega)).trans ?_); first | assumption | exact xup_s) | (refine (xup_n (by omega)).trans ((xup_n (by omega)).trans ((xup_n (by omega)).trans ?_)); first | assumption | exact xup_s)) (by rfl)) rfl (c_58 hE (fun f hf hg => ?_))
  refine xK_0 rfl ?_
  refine xs_ret r_59_24 rfl ?_
  exact k f hf hg

theorem c_60 {S : XSc} {d : Nat} {h : XH} {Q : XO → XH → Prop} {a : Nat} {e : XEst} (hE : h.1 a = some (.inr (4, eL e))) {v : Int32} (k1 : e.2.1 ≤ v ∧ v ≤ e.2.2.1 → Q (.inl (some (.int 1))) h) (k0 : ¬ (e.2.1 ≤ v ∧ v ≤ e.2.2.1) → Q (.inl (some (.int 0))) h) : xP S d 60 0 [(0, .ref a), (1, .int v)] [] h Q := by
  refine xs_f 1 r_60_0 rfl ?_
  refine xs_get 4 r_60_1 rfl rfl (by first | assumption | exact xup_s | (refine (xup_n (by omega)).trans ?_; first | assumption | exact xup_s) | (refine (xup_n (by omega)).trans ((xup_n (by omega)).trans ?_); first | assumption | exact xup_s) | (refine (xup_n (by omega)).trans ((xup_n (by omega)).trans ((xup_n (by omega)).trans ?_)); first | assumption | exact xup_s)) (by rfl) ?_
  refine xs_f 5 r_60_4 rfl ?_
  refine xs_if 20 8 r_60_5 rfl (fun hc1 => ?_) (fun hc1 => ?_)
  · refine xs_f 21 r_60_20 rfl ?_
    refine xs_ret r_60_21 rfl ?_
    first | exact k1 ⟨Int32.not_lt.mp hc1, Int32.not_lt.mp hc2⟩ | exact k0 (fun q => absurd hc1 (Int32.not_lt.mpr q.1)) | exact k0 (fun q => absurd hc2 (Int32.not_lt.mpr q.2))
  · refine xs_f 9 r_60_8 rfl ?_
    refine xs_f 10 r_60_9 rfl ?_
    refine xs_get 13 r_60_10 rfl rfl (by first | assumption | exact xup_s | (refine (xup_n (by omega)).trans ?_; first | assumption | exact xup_s) | (refine (xup_n (by omega)).trans ((xup_n (by omega)).trans ?_); first | assumption | exact xup_s) | (refine (xup_n (by omega)).trans ((xup_n (by omega)).trans ((xup_n (by omega)).trans ?_)); first | assumption | exact xup_s)) (by rfl) ?_
    refine xs_if 20 16 r_60_13 rfl (fun hc2 => ?_) (fun hc2 => ?_)
    · refine xs_f 21 r_60_20 rfl ?_
      refine xs_ret r_60_21 rfl ?_
      first | exact k1 ⟨Int32.not_lt.mp hc1, Int32.not_lt.mp hc2⟩ | exact k0 (fun q => absurd hc1 (Int32.not_lt.mpr q.1)) | exact k0 (fun q => absurd hc2 (Int32.not_lt.mpr q.2))
    · refine xs_f 17 r_60_16 rfl ?_
      refine xs_f 21 r_60_17 rfl ?_
      refine xs_ret r_60_21 rfl ?_
      first | exact k1 ⟨Int32.not_lt.mp hc1, Int32.not_lt.mp hc2⟩ | exact k0 (fun q => absurd hc1 (Int32.not_lt.mpr q.1)) | exact k0 (fun q => absurd hc2 (Int32.not_lt.mpr q.2))

def xprize (e : XEst) : Int32 := e.2.2.2.2 * (10 - e.2.2.2.1) / e.2.2.2.1
def xmx (x y : Int32) : Int32 := if x < y then y else x
def xdist (e : XEst) (t : Int32) : Int32 := xmx 0 (xmx (e.2.1 - t) (t - e.2.2.1))
def xpts (e : XEst) (t : Int32) : Int32 := e.2.2.1 - e.2.1 + 20 * xdist e t / (10 - e.2.2.2.1)
theorem c_61 {S : XSc} {d : Nat} {h : XH} {Q : XO → XH → Prop} {a : Nat} {e : XEst} (hE : h.1 a = some (.inr (4, eL e))) (hc : xconf e.2.2.2.1) (k : Q (.inl (some (.int (xprize e)))) h) : xP S (d + 1) 61 0 [(0, .ref a)] [] h Q := by
  refine xs_f 1 r_61_0 rfl ?_
  refine xs_get 4 r_61_1 rfl rfl (by first | assumption | exact xup_s | (refine (xup_n (by omega)).trans ?_; first | assumption | exact xup_s) | (refine (xup_n (by omega)).trans ((xup_n (by omega)).trans ?_); first | assumption | exact xup_s) | (refine (xup_n (by omega)).trans ((xup_n (by omega)).trans ((xup_n (by omega)).trans ?_)); first | assumption | exact xup_s)) (by rfl) ?_
  refine xs_call (lv2 := [(0, _)]) r_61_4 rfl rfl (by decide) (xcan_3 rfl rfl) rfl (c_137 (fun hb => ?_) (fun hb => ?_))
  · refine xK_v rfl ?_
    refine xs_f 10 r_61_7 rfl ?_
    refine xs_f 11 r_61_10 rfl ?_
    refine xs_get 14 r_61_11 rfl rfl (by first | assumption | exact xup_s | (refine (xup_n (by omega)).trans ?_; first | assumption | exact xup_s) | (refine (xup_n (by omega)).trans ((xup_n (by omega)).trans ?_); first | assumption | exact xup_s) | (refine (xup_n (by omega)).trans ((xup_n (by omega)).trans ((xup_n (by omega)).trans ?_)); first | assumption | exact xup_s)) (by rfl) ?_
    refine xs_f 16 r_61_14 rfl ?_
    refine xs_f 17 r_61_16 rfl ?_
    refine xs_get 20 r_61_17 rfl rfl (by first | assumption | exact xup_s | (refine (xup_n (by omega)).trans ?_; first | assumption | exact xup_s) | (refine (xup_n (by omega)).trans ((xup_n (by omega)).trans ?_); first | assumption | exact xup_s) | (refine (xup_n (by omega)).trans ((xup_n (by omega)).trans ((xup_n (by omega)).trans ?_)); first | assumption | exact xup_s)) (by rfl) ?_
    refine xs_f 21 r_61_20 rfl ?_
    refine xs_f 22 r_61_21 rfl ?_
    refine xs_f 23 r_61_22 rfl ?_
    refine xs_get 26 r_61_23 rfl rfl (by first | assumption | exact xup_s | (refine (xup_n (by omega)).trans ?_; first | assumption | exact xup_s) | (refine (xup_n (by omega)).trans ((xup_n (by omega)).trans ?_); first | assumption | exact xup_s) | (refine (xup_n (by omega)).trans ((xup_n (by omega)).trans ((xup_n (by omega)).trans ?_)); first | assumption | exact xup_s)) (by rfl) ?_
    refine xs_idiv 27 r_61_26 rfl (xconf_ne hc).1 ?_
    refine xs_f 31 r_61_27 rfl ?_
    refine xs_ret r_61_31 rfl ?_
    exact k
  · refine xK_v rfl ?_
    refine xs_f 30 r_61_7 rfl ?_
    exact absurd hc hb

theorem c_63 {S : XSc} {d : Nat} {h : XH} {Q : XO → XH → Prop} {a : Nat} {e : XEst} (hE : h.1 a = some (.inr (4, eL e))) {t : Int32} (k : Q (.inl (some (.int (xdist e t)))) h) : xP S d 63 0 [(0, .ref a), (1, .int t)] [] h Q := by
  refine xs_f 1 r_63_0 rfl ?_
  refine xs_f 2 r_63_1 rfl ?_
  refine xs_get 5 r_63_2 rfl rfl (by first | assumption | exact xup_s | (refine (xup_n (by omega)).trans ?_; first | assumption | exact xup_s) | (refine (xup_n (by omega)).trans ((xup_n (by omega)).trans ?_); first | assumption | exact xup_s) | (refine (xup_n (by omega)).trans ((xup_n (by omega)).trans ((xup_n (by omega)).trans ?_)); first | assumption | exact xup_s)) (by rfl) ?_
  refine xs_f 6 r_63_5 rfl ?_
  refine xs_f 7 r_63_6 rfl ?_
  refine xs_f 8 r_63_7 rfl ?_
  refine xs_f 9 r_63_8 rfl ?_
  refine xs_get 12 r_63_9 rfl rfl (by first | assumption | exact xup_s | (refine (xup_n (by omega)).trans ?_; first | assumption | exact xup_s) | (refine (xup_n (by omega)).trans ((xup_n (by omega)).trans ?_); first | assumption | exact xup_s) | (refine (xup_n (by omega)).trans ((xup_n (by omega)).trans ((xup_n (by omega)).trans ?_)); first | assumption | exact xup_s)) (by rfl) ?_
  refine xs_f 13 r_63_12 rfl ?_
  refine xs_ext 16 r_63_13 rfl rfl rfl rfl ?_
  refine xs_ext 19 r_63_16 rfl rfl rfl rfl ?_
  refine xs_ret r_63_19 rfl ?_
  exact k

theorem c_62 {S : XSc} {d : Nat} {h : XH} {Q : XO → XH → Prop} {a : Nat} {e : XEst} (hE : h.1 a = some (.inr (4, eL e))) {t : Int32} (hc : xconf e.2.2.2.1) (k : Q (.inl (some (.int (xpts e t)))) h) : xP S (d + 1) 62 0 [(0, .ref a), (1, .int t)] [] h Q := by
  refine xs_f 1 r_62_0 rfl ?_
  refine xs_get 4 r_62_1 rfl rfl (by first | assumption | exact xup_s | (refine (xup_n (by omega)).trans ?_; first | assumption | exact xup_s) | (refine (xup_n (by omega)).trans ((xup_n (by omega)).trans ?_); first | assumption | exact xup_s) | (refine (xup_n (by omega)).trans ((xup_n (by omega)).trans ((xup_n (by omega)).trans ?_)); first | assumption | exact xup_s)) (by rfl) ?_
  refine xs_f 5 r_62_4 rfl ?_
  refine xs_get 8 r_62_5 rfl rfl (by first | assumption | exact xup_s | (refine (xup_n (by omega)).trans ?_; first | assumption | exact xup_s) | (refine (xup_n (by omega)).trans ((xup_n (by omega)).trans ?_); first | assumption | exact xup_s) | (refine (xup_n (by omega)).trans ((xup_n (by omega)).trans ((xup_n (by omega)).trans ?_)); first | assumption | exact xup_s)) (by rfl) ?_
  refine xs_f 9 r_62_8 rfl ?_
  refine xs_f 10 (lv2 := [(2, _), (0, _), (1, _)]) r_62_9 rfl ?_
  refine xs_f 11 r_62_10 rfl ?_
  refine xs_get 14 r_62_11 rfl rfl (by first | assumption | exact xup_s | (refine (xup_n (by omega)).trans ?_; first | assumption | exact xup_s) | (refine (xup_n (by omega)).trans ((xup_n (by omega)).trans ?_); first | assumption | exact xup_s) | (refine (xup_n (by omega)).trans ((xup_n (by omega)).trans ((xup_n (by omega)).trans ?_)); first | assumption | exact xup_s)) (by rfl) ?_
  refine xs_call (lv2 := [(0, _)]) r_62_14 rfl rfl (by decide) (xcan_3 rfl rfl) rfl (c_137 (fun hb => ?_) (fun hb => ?_))
  · refine xK_v rfl ?_
    refine xs_f 20 r_62_17 rfl ?_
    refine xs_f 21 r_62_20 rfl ?_
    refine xs_f 23 r_62_21 rfl ?_
    refine xs_f 24 r_62_23 rfl ?_
    refine xs_f 25 r_62_24 rfl ?_
    refine xs_call (lv2 := [(0, _), (1, _)]) r_62_25 rfl rfl (by decide) (xcan_0 rfl rfl (by first | assumption | exact xup_s | (refine (xup_n (by omega)).trans ?_; first | assumption | exact xup_s) | (refine (xup_n (by omega)).trans ((xup_n (by omega)).trans ?_); first | assumption | exact xup_s) | (refine (xup_n (by omega)).trans ((xup_n (by omega)).trans ((xup_n (by omega)).trans ?_)); first | assumption | exact xup_s)) (by rfl)) rfl (c_63 hE ?_)
    refine xK_v rfl ?_
    refine xs_f 29 r_62_28 rfl ?_
    refine xs_f 31 r_62_29 rfl ?_
    refine xs_f 32 r_62_31 rfl ?_
    refine xs_get 35 r_62_32 rfl rfl (by first | assumption | exact xup_s | (refine (xup_n (by omega)).trans ?_; first | assumption | exact xup_s) | (refine (xup_n (by omega)).trans ((xup_n (by omega)).trans ?_); first | assumption | exact xup_s) | (refine (xup_n (by omega)).trans ((xup_n (by omega)).trans ((xup_n (by omega)).trans ?_)); first | assumption | exact xup_s)) (by rfl) ?_
    refine xs_f 36 r_62_35 rfl ?_
    refine xs_idiv 37 r_62_36 rfl (xconf_ne hc).2 ?_
    refine xs_f 38 r_62_37 rfl ?_
    refine xs_f 42 r_62_38 rfl ?_
    refine xs_ret r_62_42 rfl ?_
    exact k
  · refine xK_v rfl ?_
    refine xs_f 41 r_62_17 rfl ?_
    exact absurd hc hb

/-- bins at a: their row of sizes, their row of hits -/
def BAt (f : Nat → Option XE) (a : Nat) (sz ht : Nat → Int32) : Prop := f a = some (.inr (0, [.ref (a + 1), .ref (a + 2)])) ∧ IA f 0 (a + 1) 10 sz ∧ IA f 0 (a + 2) 10 ht
theorem BAt.fr {f g : Nat → Option XE} {a : Nat} {sz ht : Nat → Int32} (h : BAt f a sz ht) (e : ∀ c, a ≤ c → c < a + 3 → g c = f c) : BAt g a sz ht :=
  ⟨(e a (by omega) (by omega)).trans h.1, h.2.1.fr (e _ (by omega) (by omega)), h.2.2.fr (e _ (by omega) (by omega))⟩
theorem l_fi {S : XSc} {d : Nat} {h : XH} {Q : XO → XH → Prop} {a n : Nat} {v : Int32} (h32 : 32 ≤ a) (hn : n ≤ 65536) (k : ∀ f, IA f 0 a n (fun _ => v) → Fr h.1 f a (a + 1) → Q (.inl none) (f, h.2)) : ∀ (m : Nat) (i : Nat) (f : Nat → Option XE) (w : Nat → Int32), n - i < m → (i ≤ n) → (IA f 0 a n w) → (∀ j, j < i → w j = v) → (Fr h.1 f a (a + 1)) → xP S d 290 5 [(0, .ref a), (1, .int v), (2, .int (nI i)), (3, .int (nI n))] [] (f, h.2) Q := by
  intro m
  induction m with
  | zero => intro i f w hm; exact absurd hm (Nat.not_lt_zero _)
  | succ m ih =>
    intro i f w hm hi hf hv hF
    refine xs_f 6 r_290_5 rfl ?_
    refine xs_f 7 r_290_6 rfl ?_
    refine xs_if 20 10 r_290_7 rfl (fun hc1 => ?_) (fun hc1 => ?_)
    · have hc1 := (nI_leN rfl rfl (by omega) (by omega)).mp hc1
      refine xs_ret r_290_20 rfl ?_
      exact k f (hf.ex (fun j hj => hv j (by omega))) hF
    · have hc1 := mt (nI_leN rfl rfl (by omega) (by omega)).mpr hc1
      refine xs_f 11 r_290_10 rfl ?_
      refine xs_f 12 r_290_11 rfl ?_
      refine xs_f 13 r_290_12 rfl ?_
      refine xs_astI 14 r_290_13 (fun _ _ => rfl) rfl rfl rfl (j := i) rfl (by first | assumption | (refine IA.fr ?_ (xup_n (by omega)); first | assumption) | (refine IA.fr (IA.fr ?_ (xup_n (by omega))) (xup_n (by omega)); first | assumption) | (refine IA.fr (IA.fr (IA.fr ?_ (xup_n (by omega))) (xup_n (by omega))) (xup_n (by omega)); first | assumption)) (by omega) (fun f1 x1 y1 => ?_)
      refine xs_f 17 (lv2 := [(2, _), (0, _), (1, _), (3, _)]) r_290_14 rfl ?_
      refine xs_f 5 r_290_17 rfl ?_
      exact xP_lv [(0, .ref a), (1, .int v), (2, .int (nI (i + 1))), (3, .int (nI n))] rfl ⟨rfl, rfl, (by rw [nI_succ]; rfl), rfl, trivial⟩ (ih (i + 1) _ _ (by omega) (by omega) x1 (fun j hj => by
        by_cases z : j = i
        · rw [z]; exact xw_s
        · rw [xw_n z]; exact hv j (by omega)) (hF.tr y1))

theorem c_fi {S : XSc} {d : Nat} {h : XH} {Q : XO → XH → Prop} {a n : Nat} {v : Int32} {w : Nat → Int32} (h32 : 32 ≤ a) (hn : n ≤ 65536) (hf : IA h.1 0 a n w) (k : ∀ f, IA f 0 a n (fun _ => v) → Fr h.1 f a (a + 1) → Q (.inl none) (f, h.2)) : xP S d 290 0 [(0, .ref a), (1, .int v)] [] h Q := by
  refine xs_f 1 r_290_0 rfl ?_
  refine xs_f 2 (lv2 := [(2, _), (0, _), (1, _)]) r_290_1 rfl ?_
  refine xs_f 3 r_290_2 rfl ?_
  refine xs_lenA 4 r_290_3 rfl (by first | assumption | (refine IA.fr ?_ (xup_n (by omega)); first | assumption) | (refine IA.fr (IA.fr ?_ (xup_n (by omega))) (xup_n (by omega)); first | assumption) | (refine IA.fr (IA.fr (IA.fr ?_ (xup_n (by omega))) (xup_n (by omega))) (xup_n (by omega)); first | assumption)) ?_
  refine xs_f 5 (lv2 := [(3, _), (2, _), (0, _), (1, _)]) r_290_4 rfl ?_
  exact xP_lv [(0, .ref a), (1, .int v), (2, .int (nI 0)), (3, .int (nI n))] rfl ⟨rfl, rfl, rfl, rfl, trivial⟩ (l_fi h32 hn k (n + 1) 0 h.1 w (by omega) (by omega) hf (fun j hj => absurd hj (Nat.not_lt_zero _)) Fr.rf)

theorem c_1 {S : XSc} {d : Nat} {h : XH} {Q : XO → XH → Prop} {a : Nat} {sz ht : Nat → Int32} (hB : BAt h.1 a sz ht) (h32 : 32 ≤ a) (k : ∀ f, BAt f a (fun _ => 0) (fun _ => 0) → Fr h.1 f a (a + 3) → Q (.inl none) (f, h.2)) : xP S (d + 1) 1 0 [(0, .ref a)] [] h Q := by
  obtain ⟨b1, b2, b3⟩ := id hB
  refine xs_f 1 r_1_0 rfl ?_
  refine xs_get 4 r_1_1 rfl rfl (by first | assumption | exact xup_s | (refine (xup_n (by omega)).trans ?_; first | assumption | exact xup_s) | (refine (xup_n (by omega)).trans ((xup_n (by omega)).trans ?_); first | assumption | exact xup_s) | (refine (xup_n (by omega)).trans ((xup_n (by omega)).trans ((xup_n (by omega)).trans ?_)); first | assumption | exact xup_s)) (by rfl) ?_
  refine xs_f 5 r_1_4 rfl ?_
  refine xs_call (lv2 := [(0, _), (1, _)]) r_1_5 rfl rfl (by decide) (xcan_1 rfl) rfl (c_fi (by omega) (by omega) b2 (fun f1 x1 y1 => ?_))
  refine xK_0 rfl ?_
  refine xs_f 9 r_1_8 rfl ?_
  refine xs_get 12 r_1_9 rfl rfl ((y1 a (by omega)).trans b1) (by rfl) ?_
  refine xs_f 13 r_1_12 rfl ?_
  refine xs_call (lv2 := [(0, _), (1, _)]) r_1_13 rfl rfl (by decide) (xcan_1 rfl) rfl (c_fi (by omega) (by omega) (b3.fr (y1 (a + 2) (by omega))) (fun f2 x2 y2 => ?_))
  refine xK_0 rfl ?_
  refine xs_ret r_1_16 rfl ?_
  exact k f2 ⟨((y2 a (by omega)).trans ((y1 a (by omega)).trans b1)), x1.fr (y2 (a + 1) (by omega)), x2⟩ ((y1.wd (by omega) (by omega)).tr (y2.wd (by omega) (by omega)))

theorem c_4 {S : XSc} {d : Nat} {h : XH} {Q : XO → XH → Prop} {a : Nat} {sz ht : Nat → Int32} (hB : BAt h.1 a sz ht) (h32 : 32 ≤ a) {j : Nat} (h1 : 1 ≤ j) (h9 : j ≤ 9) (k : Q (.inl (some (.int (sz j)))) h) : xP S (d + 1) 4 0 [(0, .ref a), (1, .int (nI j))] [] h Q := by
  obtain ⟨b1, b2, b3⟩ := id hB
  refine xs_f 1 r_4_0 rfl ?_
  refine xs_call (lv2 := [(0, _)]) r_4_1 rfl rfl (by decide) (xcan_3 rfl rfl) rfl (c_137 (fun hb => ?_) (fun hb => ?_))
  · refine xK_v rfl ?_
    refine xs_f 7 r_4_4 rfl ?_
    refine xs_f 8 r_4_7 rfl ?_
    refine xs_get 11 r_4_8 rfl rfl (by first | assumption | exact xup_s | (refine (xup_n (by omega)).trans ?_; first | assumption | exact xup_s) | (refine (xup_n (by omega)).trans ((xup_n (by omega)).trans ?_); first | assumption | exact xup_s) | (refine (xup_n (by omega)).trans ((xup_n (by omega)).trans ((xup_n (by omega)).trans ?_)); first | assumption | exact xup_s)) (by rfl) ?_
    refine xs_f 12 r_4_11 rfl ?_
    refine xs_aldI 13 r_4_12 (fun _ _ => rfl) rfl rfl rfl (j := j) rfl (by first | assumption | (refine IA.fr ?_ (xup_n (by omega)); first | assumption) | (refine IA.fr (IA.fr ?_ (xup_n (by omega))) (xup_n (by omega)); first | assumption) | (refine IA.fr (IA.fr (IA.fr ?_ (xup_n (by omega))) (xup_n (by omega))) (xup_n (by omega)); first | assumption)) (by omega) ?_
    refine xs_f 17 r_4_13 rfl ?_
    refine xs_ret r_4_17 rfl ?_
    exact k
  · refine xK_v rfl ?_
    refine xs_f 16 r_4_4 rfl ?_
    exact absurd (xconf_j h1 h9) hb

theorem c_5 {S : XSc} {d : Nat} {h : XH} {Q : XO → XH → Prop} {a : Nat} {sz ht : Nat → Int32} (hB : BAt h.1 a sz ht) (h32 : 32 ≤ a) {j : Nat} (h1 : 1 ≤ j) (h9 : j ≤ 9) (k : Q (.inl (some (.int (ht j)))) h) : xP S (d + 1) 5 0 [(0, .ref a), (1, .int (nI j))] [] h Q := by
  obtain ⟨b1, b2, b3⟩ := id hB
  refine xs_f 1 r_5_0 rfl ?_
  refine xs_call (lv2 := [(0, _)]) r_5_1 rfl rfl (by decide) (xcan_3 rfl rfl) rfl (c_137 (fun hb => ?_) (fun hb => ?_))
  · refine xK_v rfl ?_
    refine xs_f 7 r_5_4 rfl ?_
    refine xs_f 8 r_5_7 rfl ?_
    refine xs_get 11 r_5_8 rfl rfl (by first | assumption | exact xup_s | (refine (xup_n (by omega)).trans ?_; first | assumption | exact xup_s) | (refine (xup_n (by omega)).trans ((xup_n (by omega)).trans ?_); first | assumption | exact xup_s) | (refine (xup_n (by omega)).trans ((xup_n (by omega)).trans ((xup_n (by omega)).trans ?_)); first | assumption | exact xup_s)) (by rfl) ?_
    refine xs_f 12 r_5_11 rfl ?_
    refine xs_aldI 13 r_5_12 (fun _ _ => rfl) rfl rfl rfl (j := j) rfl (by first | assumption | (refine IA.fr ?_ (xup_n (by omega)); first | assumption) | (refine IA.fr (IA.fr ?_ (xup_n (by omega))) (xup_n (by omega)); first | assumption) | (refine IA.fr (IA.fr (IA.fr ?_ (xup_n (by omega))) (xup_n (by omega))) (xup_n (by omega)); first | assumption)) (by omega) ?_
    refine xs_f 17 r_5_13 rfl ?_
    refine xs_ret r_5_17 rfl ?_
    exact k
  · refine xK_v rfl ?_
    refine xs_f 16 r_5_4 rfl ?_
    exact absurd (xconf_j h1 h9) hb

theorem l_9 {S : XSc} {d : Nat} {h : XH} {Q : XO → XH → Prop} {a n : Nat} {v : Nat → Int32} (h32 : 32 ≤ a) (hn : n ≤ 65536) (hf : IA h.1 0 a n v) (k : Q (.inl (some (.int (xsum v n)))) h) : ∀ (m : Nat) (i : Nat), n - i < m → (i ≤ n) → xP S d 9 10 [(0, .ref a), (1, .int (xsum v i)), (2, .ref a), (3, .int (nI n)), (4, .int (nI i))] [] h Q := by
  intro m
  induction m with
  | zero => intro i hm; exact absurd hm (Nat.not_lt_zero _)
  | succ m ih =>
    intro i hm hi
    refine xs_f 12 r_9_10 rfl ?_
    refine xs_f 13 r_9_12 rfl ?_
    refine xs_if 33 16 r_9_13 rfl (fun hc1 => ?_) (fun hc1 => ?_)
    · have hc1 := (nI_leN rfl rfl (by omega) (by omega)).mp hc1
      refine xs_f 34 r_9_33 rfl ?_
      refine xs_ret r_9_34 rfl ?_
      have e : i = n := by omega
      subst e
      exact k
    · have hc1 := mt (nI_leN rfl rfl (by omega) (by omega)).mpr hc1
      refine xs_f 17 r_9_16 rfl ?_
      refine xs_f 19 r_9_17 rfl ?_
      refine xs_aldI 20 r_9_19 (fun _ _ => rfl) rfl rfl rfl (j := i) rfl (by first | assumption | (refine IA.fr ?_ (xup_n (by omega)); first | assumption) | (refine IA.fr (IA.fr ?_ (xup_n (by omega))) (xup_n (by omega)); first | assumption) | (refine IA.fr (IA.fr (IA.fr ?_ (xup_n (by omega))) (xup_n (by omega))) (xup_n (by omega)); first | assumption)) (by omega) ?_
      refine xs_f 22 (lv2 := [(5, _), (0, _), (1, _), (2, _), (3, _), (4, _)]) r_9_20 rfl ?_
      refine xs_f 23 r_9_22 rfl ?_
      refine xs_f 25 r_9_23 rfl ?_
      refine xs_f 26 r_9_25 rfl ?_
      refine xs_f 27 (lv2 := [(1, _), (5, _), (0, _), (2, _), (3, _), (4, _)]) r_9_26 rfl ?_
      refine xs_f 30 (lv2 := [(4, _), (1, _), (5, _), (0, _), (2, _), (3, _)]) r_9_27 rfl ?_
      refine xs_f 10 r_9_30 rfl ?_
      exact xP_lv [(0, .ref a), (1, .int (xsum v (i + 1))), (2, .ref a), (3, .int (nI n)), (4, .int (nI (i + 1)))] rfl ⟨rfl, rfl, rfl, rfl, (by rw [nI_succ]; rfl), trivial⟩ (ih (i + 1) (by omega) (by omega))

theorem c_9 {S : XSc} {d : Nat} {h : XH} {Q : XO → XH → Prop} {a n : Nat} {v : Nat → Int32} (h32 : 32 ≤ a) (hn : n ≤ 65536) (hf : IA h.1 0 a n v) (k : Q (.inl (some (.int (xsum v n)))) h) : xP S d 9 0 [(0, .ref a)] [] h Q := by
  refine xs_f 1 r_9_0 rfl ?_
  refine xs_f 2 (lv2 := [(1, _), (0, _)]) r_9_1 rfl ?_
  refine xs_f 3 r_9_2 rfl ?_
  refine xs_f 4 (lv2 := [(2, _), (1, _), (0, _)]) r_9_3 rfl ?_
  refine xs_f 5 r_9_4 rfl ?_
  refine xs_lenA 6 r_9_5 rfl (by first | assumption | (refine IA.fr ?_ (xup_n (by omega)); first | assumption) | (refine IA.fr (IA.fr ?_ (xup_n (by omega))) (xup_n (by omega)); first | assumption) | (refine IA.fr (IA.fr (IA.fr ?_ (xup_n (by omega))) (xup_n (by omega))) (xup_n (by omega)); first | assumption)) ?_
  refine xs_f 7 (lv2 := [(3, _), (2, _), (1, _), (0, _)]) r_9_6 rfl ?_
  refine xs_f 8 r_9_7 rfl ?_
  refine xs_f 10 (lv2 := [(4, _), (3, _), (2, _), (1, _), (0, _)]) r_9_8 rfl ?_
  exact xP_lv [(0, .ref a), (1, .int (xsum v 0)), (2, .ref a), (3, .int (nI n)), (4, .int (nI 0))] rfl ⟨rfl, rfl, rfl, rfl, rfl, trivial⟩ (l_9 h32 hn hf k (n + 1) 0 (by omega) (by omega))

theorem c_6 {S : XSc} {d : Nat} {h : XH} {Q : XO → XH → Prop} {a : Nat} {sz ht : Nat → Int32} (hB : BAt h.1 a sz ht) (h32 : 32 ≤ a) (k : Q (.inl (some (.int (xsum sz 10)))) h) : xP S (d + 1) 6 0 [(0, .ref a)] [] h Q := by
  obtain ⟨b1, b2, b3⟩ := id hB
  refine xs_f 1 r_6_0 rfl ?_
  refine xs_get 4 r_6_1 rfl rfl (by first | assumption | exact xup_s | (refine (xup_n (by omega)).trans ?_; first | assumption | exact xup_s) | (refine (xup_n (by omega)).trans ((xup_n (by omega)).trans ?_); first | assumption | exact xup_s) | (refine (xup_n (by omega)).trans ((xup_n (by omega)).trans ((xup_n (by omega)).trans ?_)); first | assumption | exact xup_s)) (by rfl) ?_
  refine xs_call (lv2 := [(0, _)]) r_6_4 rfl rfl (by decide) (xcan_1 rfl) rfl (c_9 (by omega) (by omega) b2 ?_)
  refine xK_v rfl ?_
  refine xs_ret r_6_7 rfl ?_
  exact k

theorem c_7 {S : XSc} {d : Nat} {h : XH} {Q : XO → XH → Prop} {a : Nat} {sz ht : Nat → Int32} (hB : BAt h.1 a sz ht) (h32 : 32 ≤ a) (k : Q (.inl (some (.int (xsum ht 10)))) h) : xP S (d + 1) 7 0 [(0, .ref a)] [] h Q := by
  obtain ⟨b1, b2, b3⟩ := id hB
  refine xs_f 1 r_7_0 rfl ?_
  refine xs_get 4 r_7_1 rfl rfl (by first | assumption | exact xup_s | (refine (xup_n (by omega)).trans ?_; first | assumption | exact xup_s) | (refine (xup_n (by omega)).trans ((xup_n (by omega)).trans ?_); first | assumption | exact xup_s) | (refine (xup_n (by omega)).trans ((xup_n (by omega)).trans ((xup_n (by omega)).trans ?_)); first | assumption | exact xup_s)) (by rfl) ?_
  refine xs_call (lv2 := [(0, _)]) r_7_4 rfl rfl (by decide) (xcan_1 rfl) rfl (c_9 (by omega) (by omega) b3 ?_)
  refine xK_v rfl ?_
  refine xs_ret r_7_7 rfl ?_
  exact k

theorem xX_cpy {h : XH} {a b n0 n1 : Nat} {f g : Nat → Int32} (sp dp n : Nat) (ha : h.1 a = some (.inl (0, (n0, .inl f)))) (hb : h.1 b = some (.inl (0, (n1, .inl g)))) (h1 : sp + n ≤ n0) (h2 : dp + n ≤ n1) (hn0 : n0 ≤ 65536) (hn1 : n1 ≤ 65536) : xX 0 [.ref a, .int (nI sp), .ref b, .int (nI dp), .int (nI n)] h = some (none, (xup h.1 b (.inl (0, (n1, .inl (va_cpy f g sp dp n)))), h.2)) := by
  show xXcopy [.ref a, .int (nI sp), .ref b, .int (nI dp), .int (nI n)] h = _
  unfold xXcopy
  simp only [ha, hb]
  rw [show (nI sp).toNatClampNeg = sp from nI_clamp (by omega), show (nI dp).toNatClampNeg = dp from nI_clamp (by omega), show (nI n).toNatClampNeg = n from nI_clamp (by omega)]
  rw [if_pos ⟨⟨trivial, Or.inl trivial⟩, ⟨nI_pos (by omega), nI_pos (by omega), nI_pos (by omega)⟩, ⟨h1, h2⟩, fun q => by first | cases q | exact q.elim⟩]
/-- the whole row of n ints is copied -/
theorem xs_cpy {S : XSc} {d mid pc : Nat} {lv : XLv} {st : List Value} {h : XH} {Q : XO → XH → Prop} {e : XI} (pc2 : Nat) {a b n : Nat} {v w : Nat → Int32} {z1 z2 z3 : Int32} (hr : xT.1 mid pc = some e) (hp : pc + 3 = pc2) (hc : xcall e (.int z3 :: .int z2 :: .ref b :: .int z1 :: .ref a :: st) = some (4, ([.ref a, .int z1, .ref b, .int z2, .int z3], st))) (he : e.2.1.1 = 0) (e1 : z1 = nI 0) (e2 : z2 = nI 0) (e3 : z3 = nI n) (ha : IA h.1 0 a n v) (hb : IA h.1 0 b n w) (hn : n ≤ 65536) (k : ∀ f, IA f 0 b n v → Fr h.1 f b (b + 1) → xP S d mid pc2 lv st (f, h.2) Q) : xP S d mid pc lv (.int z3 :: .int z2 :: .ref b :: .int z1 :: .ref a :: st) h Q := by
  subst e1; subst e2; subst e3
  obtain ⟨F, g1, g2⟩ := ha
  obtain ⟨G, g3, g4⟩ := hb
  have hX : xX e.2.1.1 [.ref a, .int (nI 0), .ref b, .int (nI 0), .int (nI n)] h = some (none, (xup h.1 b (.inl (0, (n, .inl (va_cpy F G 0 0 n)))), h.2)) := by
    rw [he]
    exact xX_cpy 0 0 n g1 g3 (by omega) (by omega) hn hn
  refine xs_ext pc2 hr hp hc hX rfl (k _ ⟨_, xup_s, fun j hj => ?_⟩ (Fr.up (Nat.le_refl _) (Nat.lt_succ_self _)))
  rw [pk_cpy_in (by omega) (by omega), show 0 + (j - 0) = j by omega]
  exact g2 j hj
def absI (x : Int32) : Int32 := if 0 ≤ x then x else 0 - x
/-- how far from its confidences a player is -/
def xerr (sz ht : Nat → Int32) (n : Nat) : Int32 := xsum (fun i => absI (10 * ht (i + 1) - nI (i + 1) * sz (i + 1))) n
theorem c_2 {S : XSc} {d : Nat} {h : XH} {Q : XO → XH → Prop} {a b : Nat} {s1 t1 s2 t2 : Nat → Int32} (hB : BAt h.1 a s1 t1) (hC : BAt h.1 b s2 t2) (h32 : 32 ≤ a) (h33 : 32 ≤ b) (hab : a + 3 ≤ b ∨ b + 3 ≤ a) (k : ∀ f, BAt f a s2 t2 → Fr h.1 f a (a + 3) → Q (.inl none) (f, h.2)) : xP S d 2 0 [(0, .ref a), (1, .ref b)] [] h Q := by
  obtain ⟨b1, b2, b3⟩ := id hB
  obtain ⟨c1, c2, c3⟩ := id hC
  refine xs_f 1 r_2_0 rfl ?_
  refine xs_get 4 r_2_1 rfl rfl (by first | assumption | exact xup_s | exact ((y1 _ (by omega)).trans b1) | exact ((y1 _ (by omega)).trans c1) | (refine (xup_n (by omega)).trans ?_; first | assumption | exact xup_s | exact ((y1 _ (by omega)).trans b1) | exact ((y1 _ (by omega)).trans c1)) | (refine (xup_n (by omega)).trans ((xup_n (by omega)).trans ?_); first | assumption | exact xup_s | exact ((y1 _ (by omega)).trans b1) | exact ((y1 _ (by omega)).trans c1)) | (refine (xup_n (by omega)).trans ((xup_n (by omega)).trans ((xup_n (by omega)).trans ?_)); first | assumption | exact xup_s | exact ((y1 _ (by omega)).trans b1) | exact ((y1 _ (by omega)).trans c1))) (by rfl) ?_
  refine xs_f 5 r_2_4 rfl ?_
  refine xs_f 6 r_2_5 rfl ?_
  refine xs_get 9 r_2_6 rfl rfl (by first | assumption | exact xup_s | exact ((y1 _ (by omega)).trans b1) | exact ((y1 _ (by omega)).trans c1) | (refine (xup_n (by omega)).trans ?_; first | assumption | exact xup_s | exact ((y1 _ (by omega)).trans b1) | exact ((y1 _ (by omega)).trans c1)) | (refine (xup_n (by omega)).trans ((xup_n (by omega)).trans ?_); first | assumption | exact xup_s | exact ((y1 _ (by omega)).trans b1) | exact ((y1 _ (by omega)).trans c1)) | (refine (xup_n (by omega)).trans ((xup_n (by omega)).trans ((xup_n (by omega)).trans ?_)); first | assumption | exact xup_s | exact ((y1 _ (by omega)).trans b1) | exact ((y1 _ (by omega)).trans c1))) (by rfl) ?_
  refine xs_f 10 r_2_9 rfl ?_
  refine xs_f 11 r_2_10 rfl ?_
  refine xs_get 14 r_2_11 rfl rfl (by first | assumption | exact xup_s | exact ((y1 _ (by omega)).trans b1) | exact ((y1 _ (by omega)).trans c1) | (refine (xup_n (by omega)).trans ?_; first | assumption | exact xup_s | exact ((y1 _ (by omega)).trans b1) | exact ((y1 _ (by omega)).trans c1)) | (refine (xup_n (by omega)).trans ((xup_n (by omega)).trans ?_); first | assumption | exact xup_s | exact ((y1 _ (by omega)).trans b1) | exact ((y1 _ (by omega)).trans c1)) | (refine (xup_n (by omega)).trans ((xup_n (by omega)).trans ((xup_n (by omega)).trans ?_)); first | assumption | exact xup_s | exact ((y1 _ (by omega)).trans b1) | exact ((y1 _ (by omega)).trans c1))) (by rfl) ?_
  refine xs_lenA 15 r_2_14 rfl (by first | assumption | exact x1 | exact (b3.fr (y1 _ (by omega))) | (refine IA.fr ?_ (xup_n (by omega)); first | assumption | exact x1 | exact (b3.fr (y1 _ (by omega)))) | (refine IA.fr (IA.fr ?_ (xup_n (by omega))) (xup_n (by omega)); first | assumption | exact x1 | exact (b3.fr (y1 _ (by omega)))) | (refine IA.fr (IA.fr (IA.fr ?_ (xup_n (by omega))) (xup_n (by omega))) (xup_n (by omega)); first | assumption | exact x1 | exact (b3.fr (y1 _ (by omega))))) ?_
  refine xs_cpy 18 r_2_15 rfl rfl rfl rfl rfl rfl c2 b2 (by omega) (fun f1 x1 y1 => ?_)
  refine xs_f 19 r_2_18 rfl ?_
  refine xs_get 22 r_2_19 rfl rfl (by first | assumption | exact xup_s | exact ((y1 _ (by omega)).trans b1) | exact ((y1 _ (by omega)).trans c1) | (refine (xup_n (by omega)).trans ?_; first | assumption | exact xup_s | exact ((y1 _ (by omega)).trans b1) | exact ((y1 _ (by omega)).trans c1)) | (refine (xup_n (by omega)).trans ((xup_n (by omega)).trans ?_); first | assumption | exact xup_s | exact ((y1 _ (by omega)).trans b1) | exact ((y1 _ (by omega)).trans c1)) | (refine (xup_n (by omega)).trans ((xup_n (by omega)).trans ((xup_n (by omega)).trans ?_)); first | assumption | exact xup_s | exact ((y1 _ (by omega)).trans b1) | exact ((y1 _ (by omega)).trans c1))) (by rfl) ?_
  refine xs_f 23 r_2_22 rfl ?_
  refine xs_f 24 r_2_23 rfl ?_
  refine xs_get 27 r_2_24 rfl rfl (by first | assumption | exact xup_s | exact ((y1 _ (by omega)).trans b1) | exact ((y1 _ (by omega)).trans c1) | (refine (xup_n (by omega)).trans ?_; first | assumption | exact xup_s | exact ((y1 _ (by omega)).trans b1) | exact ((y1 _ (by omega)).trans c1)) | (refine (xup_n (by omega)).trans ((xup_n (by omega)).trans ?_); first | assumption | exact xup_s | exact ((y1 _ (by omega)).trans b1) | exact ((y1 _ (by omega)).trans c1)) | (refine (xup_n (by omega)).trans ((xup_n (by omega)).trans ((xup_n (by omega)).trans ?_)); first | assumption | exact xup_s | exact ((y1 _ (by omega)).trans b1) | exact ((y1 _ (by omega)).trans c1))) (by rfl) ?_
  refine xs_f 28 r_2_27 rfl ?_
  refine xs_f 29 r_2_28 rfl ?_
  refine xs_get 32 r_2_29 rfl rfl (by first | assumption | exact xup_s | exact ((y1 _ (by omega)).trans b1) | exact ((y1 _ (by omega)).trans c1) | (refine (xup_n (by omega)).trans ?_; first | assumption | exact xup_s | exact ((y1 _ (by omega)).trans b1) | exact ((y1 _ (by omega)).trans c1)) | (refine (xup_n (by omega)).trans ((xup_n (by omega)).trans ?_); first | assumption | exact xup_s | exact ((y1 _ (by omega)).trans b1) | exact ((y1 _ (by omega)).trans c1)) | (refine (xup_n (by omega)).trans ((xup_n (by omega)).trans ((xup_n (by omega)).trans ?_)); first | assumption | exact xup_s | exact ((y1 _ (by omega)).trans b1) | exact ((y1 _ (by omega)).trans c1))) (by rfl) ?_
  refine xs_lenA 33 r_2_32 rfl (by first | assumption | exact x1 | exact (b3.fr (y1 _ (by omega))) | (refine IA.fr ?_ (xup_n (by omega)); first | assumption | exact x1 | exact (b3.fr (y1 _ (by omega)))) | (refine IA.fr (IA.fr ?_ (xup_n (by omega))) (xup_n (by omega)); first | assumption | exact x1 | exact (b3.fr (y1 _ (by omega)))) | (refine IA.fr (IA.fr (IA.fr ?_ (xup_n (by omega))) (xup_n (by omega))) (xup_n (by omega)); first | assumption | exact x1 | exact (b3.fr (y1 _ (by omega))))) ?_
  refine xs_cpy 36 r_2_33 rfl rfl rfl rfl rfl rfl (c3.fr (y1 (b + 2) (by omega))) (b3.fr (y1 (a + 2) (by omega))) (by omega) (fun f2 x2 y2 => ?_)
  refine xs_ret r_2_36 rfl ?_
  exact k f2 ⟨(y2 a (by omega)).trans ((y1 a (by omega)).trans b1), x1.fr (y2 (a + 1) (by omega)), x2⟩ ((y1.wd (by omega) (by omega)).tr (y2.wd (by omega) (by omega)))

theorem c_3 {S : XSc} {d : Nat} {h : XH} {Q : XO → XH → Prop} {a : Nat} {sz ht : Nat → Int32} (hB : BAt h.1 a sz ht) (h32 : 32 ≤ a) {j : Nat} {w : Bool} (h1 : 1 ≤ j) (h9 : j ≤ 9) (k : ∀ f, BAt f a (xw sz j (sz j + 1)) (bif w then xw ht j (ht j + 1) else ht) → Fr h.1 f a (a + 3) → Q (.inl none) (f, h.2)) : xP S (d + 1) 3 0 [(0, .ref a), (1, .int (nI j)), (2, .int (bI w))] [] h Q := by
  obtain ⟨b1, b2, b3⟩ := id hB
  refine xs_f 1 r_3_0 rfl ?_
  refine xs_call (lv2 := [(0, _)]) r_3_1 rfl rfl (by decide) (xcan_3 rfl rfl) rfl (c_137 (fun hb => ?_) (fun hb => ?_))
  · refine xK_v rfl ?_
    refine xs_f 8 r_3_4 rfl ?_
    refine xs_f 9 r_3_8 rfl ?_
    refine xs_get 12 r_3_9 rfl rfl (by first | assumption | exact xup_s | exact ((y1 _ (by omega)).trans b1) | (refine (xup_n (by omega)).trans ?_; first | assumption | exact xup_s | exact ((y1 _ (by omega)).trans b1)) | (refine (xup_n (by omega)).trans ((xup_n (by omega)).trans ?_); first | assumption | exact xup_s | exact ((y1 _ (by omega)).trans b1)) | (refine (xup_n (by omega)).trans ((xup_n (by omega)).trans ((xup_n (by omega)).trans ?_)); first | assumption | exact xup_s | exact ((y1 _ (by omega)).trans b1))) (by rfl) ?_
    refine xs_f 13 r_3_12 rfl ?_
    refine xs_f 14 r_3_13 rfl ?_
    refine xs_aldI 15 r_3_14 (fun _ _ => rfl) rfl rfl rfl (j := j) rfl (by first | assumption | exact (b3.fr (y1 _ (by omega))) | (refine IA.fr ?_ (xup_n (by omega)); first | assumption | exact (b3.fr (y1 _ (by omega)))) | (refine IA.fr (IA.fr ?_ (xup_n (by omega))) (xup_n (by omega)); first | assumption | exact (b3.fr (y1 _ (by omega)))) | (refine IA.fr (IA.fr (IA.fr ?_ (xup_n (by omega))) (xup_n (by omega))) (xup_n (by omega)); first | assumption | exact (b3.fr (y1 _ (by omega))))) (by omega) ?_
    refine xs_f 16 r_3_15 rfl ?_
    refine xs_f 17 r_3_16 rfl ?_
    refine xs_astI 18 r_3_17 (fun _ _ => rfl) rfl rfl rfl (j := j) rfl (by first | assumption | exact (b3.fr (y1 _ (by omega))) | (refine IA.fr ?_ (xup_n (by omega)); first | assumption | exact (b3.fr (y1 _ (by omega)))) | (refine IA.fr (IA.fr ?_ (xup_n (by omega))) (xup_n (by omega)); first | assumption | exact (b3.fr (y1 _ (by omega)))) | (refine IA.fr (IA.fr (IA.fr ?_ (xup_n (by omega))) (xup_n (by omega))) (xup_n (by omega)); first | assumption | exact (b3.fr (y1 _ (by omega))))) (by omega) (fun f1 x1 y1 => ?_)
    refine xs_f 19 r_3_18 rfl ?_
    refine xs_if 32 22 r_3_19 rfl (fun hw => ?_) (fun hw => ?_)
    · refine xs_ret r_3_32 rfl ?_
      first
        | (have e : w = false := (bI_0 w).mp hw
           subst e
           exact k f1 ⟨(y1 a (by omega)).trans b1, x1, b3.fr (y1 (a + 2) (by omega))⟩ (y1.wd (by omega) (by omega)))
        | (have e : w = true := by cases w <;> first | rfl | exact absurd rfl hw
           subst e
           exact k f2 ⟨(y2 a (by omega)).trans ((y1 a (by omega)).trans b1), x1.fr (y2 (a + 1) (by omega)), x2⟩ ((y1.wd (by omega) (by omega)).tr (y2.wd (by omega) (by omega))))
    · refine xs_f 23 r_3_22 rfl ?_
      refine xs_get 26 r_3_23 rfl rfl (by first | assumption | exact xup_s | exact ((y1 _ (by omega)).trans b1) | (refine (xup_n (by omega)).trans ?_; first | assumption | exact xup_s | exact ((y1 _ (by omega)).trans b1)) | (refine (xup_n (by omega)).trans ((xup_n (by omega)).trans ?_); first | assumption | exact xup_s | exact ((y1 _ (by omega)).trans b1)) | (refine (xup_n (by omega)).trans ((xup_n (by omega)).trans ((xup_n (by omega)).trans ?_)); first | assumption | exact xup_s | exact ((y1 _ (by omega)).trans b1))) (by rfl) ?_
      refine xs_f 27 r_3_26 rfl ?_
      refine xs_f 28 r_3_27 rfl ?_
      refine xs_aldI 29 r_3_28 (fun _ _ => rfl) rfl rfl rfl (j := j) rfl (by first | assumption | exact (b3.fr (y1 _ (by omega))) | (refine IA.fr ?_ (xup_n (by omega)); first | assumption | exact (b3.fr (y1 _ (by omega)))) | (refine IA.fr (IA.fr ?_ (xup_n (by omega))) (xup_n (by omega)); first | assumption | exact (b3.fr (y1 _ (by omega)))) | (refine IA.fr (IA.fr (IA.fr ?_ (xup_n (by omega))) (xup_n (by omega))) (xup_n (by omega)); first | assumption | exact (b3.fr (y1 _ (by omega))))) (by omega) ?_
      refine xs_f 30 r_3_29 rfl ?_
      refine xs_f 31 r_3_30 rfl ?_
      refine xs_astI 32 r_3_31 (fun _ _ => rfl) rfl rfl rfl (j := j) rfl (by first | assumption | exact (b3.fr (y1 _ (by omega))) | (refine IA.fr ?_ (xup_n (by omega)); first | assumption | exact (b3.fr (y1 _ (by omega)))) | (refine IA.fr (IA.fr ?_ (xup_n (by omega))) (xup_n (by omega)); first | assumption | exact (b3.fr (y1 _ (by omega)))) | (refine IA.fr (IA.fr (IA.fr ?_ (xup_n (by omega))) (xup_n (by omega))) (xup_n (by omega)); first | assumption | exact (b3.fr (y1 _ (by omega))))) (by omega) (fun f2 x2 y2 => ?_)
      refine xs_ret r_3_32 rfl ?_
      first
        | (have e : w = false := (bI_0 w).mp hw
           subst e
           exact k f1 ⟨(y1 a (by omega)).trans b1, x1, b3.fr (y1 (a + 2) (by omega))⟩ (y1.wd (by omega) (by omega)))
        | (have e : w = true := by cases w <;> first | rfl | exact absurd rfl hw
           subst e
           exact k f2 ⟨(y2 a (by omega)).trans ((y1 a (by omega)).trans b1), x1.fr (y2 (a + 1) (by omega)), x2⟩ ((y1.wd (by omega) (by omega)).tr (y2.wd (by omega) (by omega))))
  · refine xK_v rfl ?_
    refine xs_f 7 r_3_4 rfl ?_
    exact absurd (xconf_j h1 h9) hb

theorem l_8 {S : XSc} {d : Nat} {h : XH} {Q : XO → XH → Prop} {a : Nat} {sz ht : Nat → Int32} (hB : BAt h.1 a sz ht) (h32 : 32 ≤ a) (k : Q (.inl (some (.int (xerr sz ht 9)))) h) : ∀ (m : Nat) (i : Nat), 9 - i < m → (i ≤ 9) → xP S (d + 1) 8 4 [(0, .ref a), (1, .int (xerr sz ht i)), (2, .int (nI (i + 1)))] [] h Q := by
  intro m
  induction m with
  | zero => intro i hm; exact absurd hm (Nat.not_lt_zero _)
  | succ m ih =>
    intro i hm hi
    obtain ⟨b1, b2, b3⟩ := id hB
    refine xs_f 5 r_8_4 rfl ?_
    refine xs_f 7 r_8_5 rfl ?_
    refine xs_if 40 10 r_8_7 rfl (fun hc1 => ?_) (fun hc1 => ?_)
    · have hc1 := (nI_ltN (nI_k 9) rfl (by omega) (by omega)).mp hc1
      refine xs_f 41 r_8_40 rfl ?_
      refine xs_ret r_8_41 rfl ?_
      have e : i = 9 := by omega
      subst e
      exact k
    · have hc1 := mt (nI_ltN (nI_k 9) rfl (by omega) (by omega)).mpr hc1
      refine xs_f 11 r_8_10 rfl ?_
      refine xs_f 13 r_8_11 rfl ?_
      refine xs_f 14 r_8_13 rfl ?_
      refine xs_get 17 r_8_14 rfl rfl (by first | assumption | exact xup_s | (refine (xup_n (by omega)).trans ?_; first | assumption | exact xup_s) | (refine (xup_n (by omega)).trans ((xup_n (by omega)).trans ?_); first | assumption | exact xup_s) | (refine (xup_n (by omega)).trans ((xup_n (by omega)).trans ((xup_n (by omega)).trans ?_)); first | assumption | exact xup_s)) (by rfl) ?_
      refine xs_f 18 r_8_17 rfl ?_
      refine xs_aldI 19 r_8_18 (fun _ _ => rfl) rfl rfl rfl (j := (i + 1)) rfl (by first | assumption | (refine IA.fr ?_ (xup_n (by omega)); first | assumption) | (refine IA.fr (IA.fr ?_ (xup_n (by omega))) (xup_n (by omega)); first | assumption) | (refine IA.fr (IA.fr (IA.fr ?_ (xup_n (by omega))) (xup_n (by omega))) (xup_n (by omega)); first | assumption)) (by omega) ?_
      refine xs_f 20 r_8_19 rfl ?_
      refine xs_f 21 r_8_20 rfl ?_
      refine xs_f 22 r_8_21 rfl ?_
      refine xs_get 25 r_8_22 rfl rfl (by first | assumption | exact xup_s | (refine (xup_n (by omega)).trans ?_; first | assumption | exact xup_s) | (refine (xup_n (by omega)).trans ((xup_n (by omega)).trans ?_); first | assumption | exact xup_s) | (refine (xup_n (by omega)).trans ((xup_n (by omega)).trans ((xup_n (by omega)).trans ?_)); first | assumption | exact xup_s)) (by rfl) ?_
      refine xs_f 26 r_8_25 rfl ?_
      refine xs_aldI 27 r_8_26 (fun _ _ => rfl) rfl rfl rfl (j := (i + 1)) rfl (by first | assumption | (refine IA.fr ?_ (xup_n (by omega)); first | assumption) | (refine IA.fr (IA.fr ?_ (xup_n (by omega))) (xup_n (by omega)); first | assumption) | (refine IA.fr (IA.fr (IA.fr ?_ (xup_n (by omega))) (xup_n (by omega))) (xup_n (by omega)); first | assumption)) (by omega) ?_
      refine xs_f 28 r_8_27 rfl ?_
      refine xs_f 29 r_8_28 rfl ?_
      refine xs_ext 32 r_8_29 rfl rfl rfl rfl ?_
      refine xs_f 33 r_8_32 rfl ?_
      refine xs_f 34 (lv2 := [(1, _), (0, _), (2, _)]) r_8_33 rfl ?_
      refine xs_f 37 (lv2 := [(2, _), (1, _), (0, _)]) r_8_34 rfl ?_
      refine xs_f 4 r_8_37 rfl ?_
      exact xP_lv [(0, .ref a), (1, .int (xerr sz ht (i + 1))), (2, .int (nI (i + 1 + 1)))] rfl ⟨rfl, rfl, (by rw [nI_succ (i + 1)]; rfl), trivial⟩ (ih (i + 1) (by omega) (by omega))

theorem c_8 {S : XSc} {d : Nat} {h : XH} {Q : XO → XH → Prop} {a : Nat} {sz ht : Nat → Int32} (hB : BAt h.1 a sz ht) (h32 : 32 ≤ a) (k : Q (.inl (some (.int (xerr sz ht 9)))) h) : xP S (d + 1) 8 0 [(0, .ref a)] [] h Q := by
  refine xs_f 1 r_8_0 rfl ?_
  refine xs_f 2 (lv2 := [(1, _), (0, _)]) r_8_1 rfl ?_
  refine xs_f 3 r_8_2 rfl ?_
  refine xs_f 4 (lv2 := [(2, _), (1, _), (0, _)]) r_8_3 rfl ?_
  exact xP_lv [(0, .ref a), (1, .int (xerr sz ht 0)), (2, .int (nI (0 + 1)))] rfl ⟨rfl, rfl, rfl, trivial⟩ (l_8 hB h32 k 10 0 (by omega) (by omega))

