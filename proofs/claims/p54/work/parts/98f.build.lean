/-! the build of a contest out of the script -/
theorem and_nI (x : Int32) {m : Nat} (hm : m < 2147483648) : x &&& nI m = nI (x.toBitVec.toNat &&& m) := by
  have e : ∀ j : Nat, j < 2147483648 → (nI j).toBitVec.toNat = j := fun j hj => by
    have q : (nI j).toBitVec = BitVec.ofNat 32 j := rfl
    rw [q, BitVec.toNat_ofNat]
    omega
  have hle : x.toBitVec.toNat &&& m ≤ m := Nat.and_le_right
  apply Int32.toBitVec_inj.mp
  apply BitVec.eq_of_toNat_eq
  rw [Int32.toBitVec_and, BitVec.toNat_and, e m hm, e _ (by omega)]
theorem rem_t : ∀ m, m < 8 → ∀ n, n < 7 → 0 < n → nI m - nI m / nI n * nI n = nI (m % n) := by decide +kernel
def rm7 (x : Int32) (n : Nat) : Nat := (x.toBitVec.toNat &&& 7) % n
theorem rem7 {x : Int32} {n : Nat} (h0 : 0 < n) (h6 : n ≤ 6) : (x &&& 7) - (x &&& 7) / nI n * nI n = nI (rm7 x n) ∧ rm7 x n < n := by
  have e : x &&& 7 = nI (x.toBitVec.toNat &&& 7) := and_nI x (m := 7) (by decide)
  have hle : x.toBitVec.toNat &&& 7 ≤ 7 := Nat.and_le_right
  rw [e]
  exact ⟨rem_t _ (by omega) n (by omega) h0, Nat.mod_lt _ h0⟩
def mm3 (x : Int32) : Nat := 2 + (x.toBitVec.toNat &&& 3) % 3
theorem rem3 {x : Int32} : 2 + ((x &&& 3) - (x &&& 3) / 3 * 3) = nI (mm3 x) ∧ mm3 x ≤ 4 := by
  have e : x &&& 3 = nI (x.toBitVec.toNat &&& 3) := and_nI x (m := 3) (by decide)
  have hle : x.toBitVec.toNat &&& 3 ≤ 3 := Nat.and_le_right
  rw [e]
  have k : ∀ m, m < 4 → 2 + (nI m - nI m / 3 * 3) = nI (2 + m % 3) := by decide +kernel
  exact ⟨k _ (by omega), by unfold mm3; omega⟩
section FB
variable {S : XSc} {d b B : Nat} {h h1 : XH} {Q : XO → XH → Prop}
theorem sg_296  {z c : Int32} {i : Nat} (hB : B ≤ 700) (W : Bd h b B h1) (k : ∀ h2, Bd h b (B + 1) h2 → yP S (d + 9) 162 316 [(0, .ref 12), (1, .ref b), (2, .int z), (3, .int (nI i)), (4, .int c)] [] h2 Q) : yP S (d + 9) 162 296 [(0, .ref 12), (1, .ref b), (2, .int z), (3, .int (nI i)), (4, .int c)] [] h1 Q := by
  obtain ⟨gs, o0⟩ := W.o
  refine ys_f 298 r_162_296 rfl ?_
  refine ys_f 300 r_162_298 rfl ?_
  refine ys_f 301 r_162_300 rfl ?_
  refine ys_f 303 r_162_301 rfl ?_
  refine ys_f 304 r_162_303 rfl ?_
  refine ys_f 306 r_162_304 rfl ?_
  refine ys_if 309 316 r_162_306 rfl (fun hc1 => ?_) (fun hc1 => ?_)
  · refine ys_f 310 r_162_309 rfl ?_
    refine ys_f 311 r_162_310 rfl ?_
    refine ys_f 312 r_162_311 rfl ?_
    refine ys_call (lv2 := [(0, _), (1, _), (2, _)]) r_162_312 rfl rfl (by decide) (xcan_3 rfl rfl) rfl (bd_0 (by omega) W (fun h1 v1 W1 => ?_))
    obtain ⟨gs1, o1⟩ := W1.o
    refine yK_v rfl ?_
    refine ys_f 316 r_162_315 rfl ?_
    exact yP_lv [(0, .ref 12), (1, .ref b), (2, .int z), (3, .int (nI i)), (4, .int c)] rfl ⟨rfl, rfl, rfl, rfl, rfl, trivial⟩ (k _ W1)
  · exact yP_lv [(0, .ref 12), (1, .ref b), (2, .int z), (3, .int (nI i)), (4, .int c)] rfl ⟨rfl, rfl, rfl, rfl, rfl, trivial⟩ (k _ (W.up (by omega) (by omega)))

theorem sg_270  {z c : Int32} {i : Nat} (hB : B ≤ 700) (W : Bd h b B h1) (k : ∀ h2, Bd h b (B + 1) h2 → yP S (d + 9) 162 296 [(0, .ref 12), (1, .ref b), (2, .int z), (3, .int (nI i)), (4, .int c)] [] h2 Q) : yP S (d + 9) 162 270 [(0, .ref 12), (1, .ref b), (2, .int z), (3, .int (nI i)), (4, .int c)] [] h1 Q := by
  obtain ⟨gs, o0⟩ := W.o
  refine ys_f 272 r_162_270 rfl ?_
  refine ys_f 274 r_162_272 rfl ?_
  refine ys_f 275 r_162_274 rfl ?_
  refine ys_f 277 r_162_275 rfl ?_
  refine ys_f 278 r_162_277 rfl ?_
  refine ys_f 280 r_162_278 rfl ?_
  refine ys_if 283 296 r_162_280 rfl (fun hc1 => ?_) (fun hc1 => ?_)
  · refine ys_f 284 r_162_283 rfl ?_
    refine ys_f 285 r_162_284 rfl ?_
    refine ys_f 287 r_162_285 rfl ?_
    refine ys_f 289 r_162_287 rfl ?_
    refine ys_f 290 r_162_289 rfl ?_
    refine ys_f 291 r_162_290 rfl ?_
    refine ys_f 292 r_162_291 rfl ?_
    refine ys_call (lv2 := [(0, _), (1, _), (2, _)]) r_162_292 rfl rfl (by decide) (xcan_3 rfl rfl) rfl (bd_4 (by omega) W (fun h1 v1 W1 => ?_))
    obtain ⟨gs1, o1⟩ := W1.o
    refine yK_v rfl ?_
    refine ys_f 296 r_162_295 rfl ?_
    exact yP_lv [(0, .ref 12), (1, .ref b), (2, .int z), (3, .int (nI i)), (4, .int c)] rfl ⟨rfl, rfl, rfl, rfl, rfl, trivial⟩ (k _ W1)
  · exact yP_lv [(0, .ref 12), (1, .ref b), (2, .int z), (3, .int (nI i)), (4, .int c)] rfl ⟨rfl, rfl, rfl, rfl, rfl, trivial⟩ (k _ (W.up (by omega) (by omega)))

theorem sg_251  {z c : Int32} {i : Nat} (hB : B ≤ 700) (W : Bd h b B h1) (k : ∀ h2, Bd h b (B + 1) h2 → yP S (d + 9) 162 270 [(0, .ref 12), (1, .ref b), (2, .int z), (3, .int (nI i)), (4, .int c)] [] h2 Q) : yP S (d + 9) 162 251 [(0, .ref 12), (1, .ref b), (2, .int z), (3, .int (nI i)), (4, .int c)] [] h1 Q := by
  obtain ⟨gs, o0⟩ := W.o
  refine ys_f 253 r_162_251 rfl ?_
  refine ys_f 255 r_162_253 rfl ?_
  refine ys_f 256 r_162_255 rfl ?_
  refine ys_f 258 r_162_256 rfl ?_
  refine ys_f 259 r_162_258 rfl ?_
  refine ys_f 260 r_162_259 rfl ?_
  refine ys_if 263 270 r_162_260 rfl (fun hc1 => ?_) (fun hc1 => ?_)
  · refine ys_f 264 r_162_263 rfl ?_
    refine ys_f 265 r_162_264 rfl ?_
    refine ys_f 266 r_162_265 rfl ?_
    refine ys_call (lv2 := [(0, _), (1, _), (2, _)]) r_162_266 rfl rfl (by decide) (xcan_3 rfl rfl) rfl (bd_3 (by omega) W (fun h1 v1 W1 => ?_))
    obtain ⟨gs1, o1⟩ := W1.o
    refine yK_v rfl ?_
    refine ys_f 270 r_162_269 rfl ?_
    exact yP_lv [(0, .ref 12), (1, .ref b), (2, .int z), (3, .int (nI i)), (4, .int c)] rfl ⟨rfl, rfl, rfl, rfl, rfl, trivial⟩ (k _ W1)
  · exact yP_lv [(0, .ref 12), (1, .ref b), (2, .int z), (3, .int (nI i)), (4, .int c)] rfl ⟨rfl, rfl, rfl, rfl, rfl, trivial⟩ (k _ (W.up (by omega) (by omega)))

theorem sg_226  {z c : Int32} {i : Nat} (hB : B ≤ 700) (W : Bd h b B h1) (k : ∀ h2, Bd h b (B + 1) h2 → yP S (d + 9) 162 251 [(0, .ref 12), (1, .ref b), (2, .int z), (3, .int (nI i)), (4, .int c)] [] h2 Q) : yP S (d + 9) 162 226 [(0, .ref 12), (1, .ref b), (2, .int z), (3, .int (nI i)), (4, .int c)] [] h1 Q := by
  obtain ⟨gs, o0⟩ := W.o
  refine ys_f 228 r_162_226 rfl ?_
  refine ys_f 230 r_162_228 rfl ?_
  refine ys_f 231 r_162_230 rfl ?_
  refine ys_f 232 r_162_231 rfl ?_
  refine ys_f 233 r_162_232 rfl ?_
  refine ys_f 234 r_162_233 rfl ?_
  refine ys_if 237 251 r_162_234 rfl (fun hc1 => ?_) (fun hc1 => ?_)
  · refine ys_f 238 r_162_237 rfl ?_
    refine ys_f 239 r_162_238 rfl ?_
    refine ys_f 241 r_162_239 rfl ?_
    refine ys_f 242 r_162_241 rfl ?_
    refine ys_f 243 r_162_242 rfl ?_
    refine ys_f 246 r_162_243 rfl ?_
    refine ys_f 247 r_162_246 rfl ?_
    refine ys_call (lv2 := [(0, _), (1, _), (2, _)]) r_162_247 rfl rfl (by decide) (xcan_3 rfl rfl) rfl (bd_2 (by omega) W (fun h1 v1 W1 => ?_))
    obtain ⟨gs1, o1⟩ := W1.o
    refine yK_v rfl ?_
    refine ys_f 251 r_162_250 rfl ?_
    exact yP_lv [(0, .ref 12), (1, .ref b), (2, .int z), (3, .int (nI i)), (4, .int c)] rfl ⟨rfl, rfl, rfl, rfl, rfl, trivial⟩ (k _ W1)
  · exact yP_lv [(0, .ref 12), (1, .ref b), (2, .int z), (3, .int (nI i)), (4, .int c)] rfl ⟨rfl, rfl, rfl, rfl, rfl, trivial⟩ (k _ (W.up (by omega) (by omega)))

theorem sg_199  {z c : Int32} {i : Nat} (hB : B ≤ 700) (W : Bd h b B h1) (k : ∀ h2, Bd h b (B + 1) h2 → yP S (d + 9) 162 226 [(0, .ref 12), (1, .ref b), (2, .int z), (3, .int (nI i)), (4, .int c)] [] h2 Q) : yP S (d + 9) 162 199 [(0, .ref 12), (1, .ref b), (2, .int z), (3, .int (nI i)), (4, .int c)] [] h1 Q := by
  obtain ⟨gs, o0⟩ := W.o
  refine ys_f 201 r_162_199 rfl ?_
  refine ys_f 203 r_162_201 rfl ?_
  refine ys_f 204 r_162_203 rfl ?_
  refine ys_f 205 r_162_204 rfl ?_
  refine ys_f 206 r_162_205 rfl ?_
  refine ys_if 209 226 r_162_206 rfl (fun hc1 => ?_) (fun hc1 => ?_)
  · refine ys_f 210 r_162_209 rfl ?_
    refine ys_f 211 r_162_210 rfl ?_
    refine ys_f 212 r_162_211 rfl ?_
    refine ys_f 214 r_162_212 rfl ?_
    refine ys_f 216 r_162_214 rfl ?_
    refine ys_f 217 r_162_216 rfl ?_
    refine ys_f 218 r_162_217 rfl ?_
    refine ys_f 219 r_162_218 rfl ?_
    refine ys_f 220 r_162_219 rfl ?_
    refine ys_irem 221 r_162_220 rfl (by decide) ?_
    refine ys_f 222 r_162_221 rfl ?_
    refine ys_call (lv2 := [(0, _), (1, _), (2, _)]) r_162_222 rfl rfl (by decide) (xcan_3 rfl rfl) rfl (bd_1 (by omega) W (fun h1 v1 W1 => ?_))
    obtain ⟨gs1, o1⟩ := W1.o
    refine yK_v rfl ?_
    refine ys_f 226 r_162_225 rfl ?_
    exact yP_lv [(0, .ref 12), (1, .ref b), (2, .int z), (3, .int (nI i)), (4, .int c)] rfl ⟨rfl, rfl, rfl, rfl, rfl, trivial⟩ (k _ W1)
  · exact yP_lv [(0, .ref 12), (1, .ref b), (2, .int z), (3, .int (nI i)), (4, .int c)] rfl ⟨rfl, rfl, rfl, rfl, rfl, trivial⟩ (k _ (W.up (by omega) (by omega)))

theorem lp_96  {z c : Int32} {i n : Nat} (hB : B ≤ 690) (hn : n ≤ 6) (k : ∀ h2, Bd h b (B + 2) h2 → yP S (d + 9) 162 199 [(0, .ref 12), (1, .ref b), (2, .int z), (3, .int (nI i)), (4, .int c)] [] h2 Q) : ∀ (m : Nat) (j : Nat) (h1 : XH), 3 - j < m → (j ≤ 2) → (Be h b (B + j) n h1) → yP S (d + 9) 162 96 [(0, .ref 12), (1, .ref b), (2, .int z), (3, .int (nI i)), (4, .int c), (5, .int (nI n)), (6, .int (nI j))] [] h1 Q := by
  intro m
  induction m with
  | zero => intro j h1 hm; exact absurd hm (Nat.not_lt_zero _)
  | succ m ih =>
    intro j h1 hm hj W
    obtain ⟨gs, o0⟩ := W.o
    refine ys_f 98 r_162_96 rfl ?_
    refine ys_f 99 r_162_98 rfl ?_
    refine ys_if 199 102 r_162_99 rfl (fun hc1 => ?_) (fun hc1 => ?_)
    · have hc1 := (nI_leN (nI_k 2) rfl (by omega) (by omega)).mp hc1
      exact yP_lv [(0, .ref 12), (1, .ref b), (2, .int z), (3, .int (nI i)), (4, .int c)] rfl ⟨rfl, rfl, rfl, rfl, rfl, trivial⟩ (k _ (W.toD.up (by omega) (by omega)))
    · have hc1 := mt (nI_leN (nI_k 2) rfl (by omega) (by omega)).mpr hc1
      refine ys_f 104 r_162_102 rfl ?_
      refine ys_if 199 107 r_162_104 rfl (fun hc2 => ?_) (fun hc2 => ?_)
      · have hc2 := (nI_leN rfl (nI_k 0) (by omega) (by omega)).mp hc2
        exact yP_lv [(0, .ref 12), (1, .ref b), (2, .int z), (3, .int (nI i)), (4, .int c)] rfl ⟨rfl, rfl, rfl, rfl, rfl, trivial⟩ (k _ (W.toD.up (by omega) (by omega)))
      · have hc2 := mt (nI_leN rfl (nI_k 0) (by omega) (by omega)).mpr hc2
        refine ys_f 109 r_162_107 rfl ?_
        refine ys_f 110 r_162_109 rfl ?_
        refine ys_f 112 r_162_110 rfl ?_
        refine ys_f 113 r_162_112 rfl ?_
        refine ys_f 114 r_162_113 rfl ?_
        refine ys_f 117 r_162_114 rfl ?_
        refine ys_f 118 r_162_117 rfl ?_
        refine ys_f 120 (lv2 := [(7, _), (0, _), (1, _), (2, _), (3, _), (4, _), (5, _), (6, _)]) r_162_118 rfl ?_
        refine ys_f 121 r_162_120 rfl ?_
        refine ys_f 123 r_162_121 rfl ?_
        refine ys_f 125 r_162_123 rfl ?_
        refine ys_f 126 r_162_125 rfl ?_
        refine ys_f 127 r_162_126 rfl ?_
        refine ys_irem 128 r_162_127 rfl (by decide) ?_
        refine ys_f 129 r_162_128 rfl ?_
        refine ys_f 130 r_162_129 rfl ?_
        refine ys_f 131 r_162_130 rfl ?_
        refine ys_f 133 r_162_131 rfl ?_
        refine ys_f 134 r_162_133 rfl ?_
        refine ys_f 135 r_162_134 rfl ?_
        refine ys_f 137 r_162_135 rfl ?_
        refine ys_f 138 r_162_137 rfl ?_
        refine ys_f 140 r_162_138 rfl ?_
        refine ys_irem 141 r_162_140 rfl (nI_ne0 (by omega) (by omega)) ?_
        refine ys_call (lv2 := [(0, _), (1, _)]) r_162_141 rfl rfl (by decide) (xcan_0 rfl rfl (by first | assumption) (by rfl)) rfl (yP_lv [(0, .ref b), (1, .int (nI (rm7 _ n)))] rfl ⟨rfl, congrArg (fun z => some (Value.int z)) (rem7 (by omega) hn).1, trivial⟩ (be_96 (rem7 (by omega) hn).2 hn W (fun h1 v1 W1 => ?_)))
        obtain ⟨gs1, o1⟩ := W1.o
        refine yK_v rfl ?_
        refine ys_f 146 r_162_144 rfl ?_
        refine ys_f 148 r_162_146 rfl ?_
        refine ys_f 150 r_162_148 rfl ?_
        refine ys_f 152 r_162_150 rfl ?_
        refine ys_f 154 r_162_152 rfl ?_
        refine ys_f 155 r_162_154 rfl ?_
        refine ys_f 156 r_162_155 rfl ?_
        refine ys_f 158 r_162_156 rfl ?_
        refine ys_f 159 r_162_158 rfl ?_
        refine ys_f 160 r_162_159 rfl ?_
        refine ys_f 161 r_162_160 rfl ?_
        refine ys_f 163 r_162_161 rfl ?_
        refine ys_f 165 r_162_163 rfl ?_
        refine ys_f 167 r_162_165 rfl ?_
        refine ys_f 168 r_162_167 rfl ?_
        refine ys_f 169 r_162_168 rfl ?_
        refine ys_f 171 r_162_169 rfl ?_
        refine ys_f 172 r_162_171 rfl ?_
        refine ys_f 174 r_162_172 rfl ?_
        refine ys_irem 175 r_162_174 rfl (by decide) ?_
        refine ys_f 176 r_162_175 rfl ?_
        refine ys_f 177 r_162_176 rfl ?_
        refine ys_f 179 r_162_177 rfl ?_
        refine ys_f 181 r_162_179 rfl ?_
        refine ys_f 183 r_162_181 rfl ?_
        refine ys_f 184 r_162_183 rfl ?_
        refine ys_f 185 r_162_184 rfl ?_
        refine ys_f 187 r_162_185 rfl ?_
        refine ys_f 188 r_162_187 rfl ?_
        refine ys_f 189 r_162_188 rfl ?_
        refine ys_call (lv2 := [(0, _), (1, _), (2, _), (3, _), (4, _), (5, _), (6, _)]) r_162_189 rfl rfl (by decide) (xcan_3 rfl rfl) rfl (be_164 (by omega) W1 (fun h2 v2 W2 => ?_))
        obtain ⟨gs2, o2⟩ := W2.o
        refine yK_v rfl ?_
        refine ys_f 193 r_162_192 rfl ?_
        refine ys_f 196 (lv2 := [(6, _), (7, _), (0, _), (1, _), (2, _), (3, _), (4, _), (5, _)]) r_162_193 rfl ?_
        refine ys_f 96 r_162_196 rfl ?_
        exact yP_lv [(0, .ref 12), (1, .ref b), (2, .int z), (3, .int (nI i)), (4, .int c), (5, .int (nI n)), (6, .int (nI (j + 1)))] rfl ⟨rfl, rfl, rfl, rfl, rfl, rfl, (by rw [nI_succ]; rfl), trivial⟩ (ih (j + 1) _ (by omega) (by omega) W2)

theorem lp_74  {z : Int32} (hL : S.1 ≤ 260) (k : ∀ h2, Bd h b 200 h2 → Q (.inl (some (.ref b))) h2) : ∀ (m : Nat) (i : Nat) (h1 : XH), 14 - i < m → (i ≤ 13) → (Bd h b (10 + 8 * i) h1) → yP S (d + 9) 162 74 [(0, .ref 12), (1, .ref b), (2, .int z), (3, .int (nI i))] [] h1 Q := by
  intro m
  induction m with
  | zero => intro i h1 hm; exact absurd hm (Nat.not_lt_zero _)
  | succ m ih =>
    intro i h1 hm hi W
    obtain ⟨gs, o0⟩ := W.o
    refine ys_f 75 r_162_74 rfl ?_
    refine ys_f 77 r_162_75 rfl ?_
    refine ys_if 322 80 r_162_77 rfl (fun hc1 => ?_) (fun hc1 => ?_)
    · have hc1 := (nI_leN (nI_k 13) rfl (by omega) (by omega)).mp hc1
      refine ys_f 323 r_162_322 rfl ?_
      refine ys_ret r_162_323 rfl ?_
      exact k _ (W.up (by omega) (by omega))
    · have hc1 := mt (nI_leN (nI_k 13) rfl (by omega) (by omega)).mpr hc1
      refine ys_f 81 r_162_80 rfl ?_
      refine ys_f 82 r_162_81 rfl ?_
      refine ys_call (lv2 := [(0, _), (1, _)]) r_162_82 rfl rfl (by decide) (xcan_1 rfl) rfl (yP_up (show d ≤ d + 8 by omega) (la_160 hL (by omega) ?_))
      refine yK_v rfl ?_
      refine ys_f 87 (lv2 := [(4, _), (0, _), (1, _), (2, _), (3, _)]) r_162_85 rfl ?_
      refine ys_f 88 r_162_87 rfl ?_
      refine ys_call (lv2 := [(0, _)]) r_162_88 rfl rfl (by decide) (xcan_0 rfl rfl (by first | assumption) (by rfl)) rfl (yP_up (show d + 7 ≤ d + 8 by omega) (be_95 W (fun h2 n9 hn9 W2 => ?_)))
      obtain ⟨gs2, o2⟩ := W2.o
      refine yK_v rfl ?_
      refine ys_f 93 (lv2 := [(5, _), (4, _), (0, _), (1, _), (2, _), (3, _)]) r_162_91 rfl ?_
      refine ys_f 94 r_162_93 rfl ?_
      refine ys_f 96 (lv2 := [(6, _), (5, _), (4, _), (0, _), (1, _), (2, _), (3, _)]) r_162_94 rfl ?_
      refine yP_lv [(0, .ref 12), (1, .ref b), (2, .int z), (3, .int (nI i)), (4, .int (atV S i)), (5, .int (nI _)), (6, .int (nI 0))] rfl ⟨rfl, rfl, rfl, rfl, rfl, rfl, rfl, trivial⟩ (lp_96 (B := 10 + 8 * i) (by omega) hn9 (fun h2 W2 => ?_) 4 0 _ (by omega) (by omega) W2)
      refine sg_199 (by omega) W2 (fun h3 W3 => sg_226 (by omega) W3 (fun h4 W4 => sg_251 (by omega) W4 (fun h5 W5 => sg_270 (by omega) W5 (fun h6 W6 => sg_296 (by omega) W6 (fun h7 W7 => ?_)))))
      refine ys_f 319 (lv2 := [(3, _), (0, _), (1, _), (2, _), (4, _)]) r_162_316 rfl ?_
      refine ys_f 74 r_162_319 rfl ?_
      exact yP_lv [(0, .ref 12), (1, .ref b), (2, .int z), (3, .int (nI (i + 1)))] rfl ⟨rfl, rfl, rfl, (by rw [nI_succ]; rfl), trivial⟩ (ih (i + 1) _ (by omega) (by omega) (W7.up (by omega) (by omega)))

theorem lp_42  {z : Int32} (k : ∀ h2, Bd h b 18 h2 → yP S (d + 9) 162 72 [(0, .ref 12), (1, .ref b), (2, .int z)] [] h2 Q) : ∀ (m : Nat) (i : Nat) (h1 : XH), 3 - i < m → (i ≤ 2) → (Bd h b (6 + i) h1) → yP S (d + 9) 162 42 [(0, .ref 12), (1, .ref b), (2, .int z), (3, .int (nI i))] [] h1 Q := by
  intro m
  induction m with
  | zero => intro i h1 hm; exact absurd hm (Nat.not_lt_zero _)
  | succ m ih =>
    intro i h1 hm hi W
    obtain ⟨gs, o0⟩ := W.o
    refine ys_f 43 r_162_42 rfl ?_
    refine ys_f 44 r_162_43 rfl ?_
    refine ys_if 72 47 r_162_44 rfl (fun hc1 => ?_) (fun hc1 => ?_)
    · have hc1 := (nI_leN (nI_k 2) rfl (by omega) (by omega)).mp hc1
      exact yP_lv [(0, .ref 12), (1, .ref b), (2, .int z)] rfl ⟨rfl, rfl, rfl, trivial⟩ (k _ (W.up (by omega) (by omega)))
    · have hc1 := mt (nI_leN (nI_k 2) rfl (by omega) (by omega)).mpr hc1
      refine ys_f 48 r_162_47 rfl ?_
      refine ys_f 49 r_162_48 rfl ?_
      refine ys_f 50 r_162_49 rfl ?_
      refine ys_f 51 r_162_50 rfl ?_
      refine ys_f 52 r_162_51 rfl ?_
      refine ys_f 53 r_162_52 rfl ?_
      refine ys_f 54 r_162_53 rfl ?_
      refine ys_f 55 r_162_54 rfl ?_
      refine ys_f 56 r_162_55 rfl ?_
      refine ys_f 57 r_162_56 rfl ?_
      refine ys_f 58 r_162_57 rfl ?_
      refine ys_f 59 r_162_58 rfl ?_
      refine ys_f 60 r_162_59 rfl ?_
      refine ys_irem 61 r_162_60 rfl (by decide) ?_
      refine ys_f 62 r_162_61 rfl ?_
      refine ys_call (lv2 := [(0, _), (1, _), (2, _)]) r_162_62 rfl rfl (by decide) (xcan_3 rfl rfl) rfl (bd_1 (by omega) W (fun h1 v1 W1 => ?_))
      obtain ⟨gs1, o1⟩ := W1.o
      refine yK_v rfl ?_
      refine ys_f 66 r_162_65 rfl ?_
      refine ys_f 69 (lv2 := [(3, _), (0, _), (1, _), (2, _)]) r_162_66 rfl ?_
      refine ys_f 42 r_162_69 rfl ?_
      exact yP_lv [(0, .ref 12), (1, .ref b), (2, .int z), (3, .int (nI (i + 1)))] rfl ⟨rfl, rfl, rfl, (by rw [nI_succ]; rfl), trivial⟩ (ih (i + 1) _ (by omega) (by omega) W1)

theorem lp_16  {z : Int32} (k : ∀ h2, Bd h b 6 h2 → yP S (d + 9) 162 40 [(0, .ref 12), (1, .ref b), (2, .int z)] [] h2 Q) : ∀ (m : Nat) (i : Nat) (h1 : XH), 5 - i < m → (i ≤ 4) → (Bd h b i h1) → yP S (d + 9) 162 16 [(0, .ref 12), (1, .ref b), (2, .int z), (3, .int (nI i))] [] h1 Q := by
  intro m
  induction m with
  | zero => intro i h1 hm; exact absurd hm (Nat.not_lt_zero _)
  | succ m ih =>
    intro i h1 hm hi W
    obtain ⟨gs, o0⟩ := W.o
    refine ys_f 17 r_162_16 rfl ?_
    refine ys_f 18 r_162_17 rfl ?_
    refine ys_f 19 r_162_18 rfl ?_
    refine ys_f 20 r_162_19 rfl ?_
    refine ys_f 21 r_162_20 rfl ?_
    refine ys_f 22 r_162_21 rfl ?_
    refine ys_irem 23 r_162_22 rfl (by decide) ?_
    refine ys_f 24 r_162_23 rfl ?_
    have h4 := (rem3 (x := z)).2
    refine ys_if 40 27 r_162_24 rfl (fun hc1 => ?_) (fun hc1 => ?_)
    · have hc1 := (nI_leN rem3.1 rfl (by omega) (by omega)).mp hc1
      exact yP_lv [(0, .ref 12), (1, .ref b), (2, .int z)] rfl ⟨rfl, rfl, rfl, trivial⟩ (k _ (W.up (by omega) (by omega)))
    · have hc1 := mt (nI_leN rem3.1 rfl (by omega) (by omega)).mpr hc1
      refine ys_f 28 r_162_27 rfl ?_
      refine ys_f 29 r_162_28 rfl ?_
      refine ys_f 30 r_162_29 rfl ?_
      refine ys_call (lv2 := [(0, _), (1, _), (2, _)]) r_162_30 rfl rfl (by decide) (xcan_3 rfl rfl) rfl (bd_0 (by omega) W (fun h1 v1 W1 => ?_))
      obtain ⟨gs1, o1⟩ := W1.o
      refine yK_v rfl ?_
      refine ys_f 34 r_162_33 rfl ?_
      refine ys_f 37 (lv2 := [(3, _), (0, _), (1, _), (2, _)]) r_162_34 rfl ?_
      refine ys_f 16 r_162_37 rfl ?_
      exact yP_lv [(0, .ref 12), (1, .ref b), (2, .int z), (3, .int (nI (i + 1)))] rfl ⟨rfl, rfl, rfl, (by rw [nI_succ]; rfl), trivial⟩ (ih (i + 1) _ (by omega) (by omega) W1)

theorem la_162 {n : Nat} (hL : S.1 ≤ 260) (l : Lo h) (hn : h.2.1 = some n) (k : ∀ h2 b, Bd h b 200 h2 → Q (.inl (some (.ref b))) h2) : yP S (d + 9) 162 0 [(0, .ref 12)] [] h Q := by
  refine ys_newO 3 r_162_0 rfl rfl hn (fun h1 o1 y1 e1 => ?_)
  refine ys_f 4 r_162_3 rfl ?_
  refine ys_call (lv2 := [(0, _)]) r_162_4 rfl rfl (by decide) (xcan_2 rfl) rfl (yP_up (show d + 7 ≤ d + 8 by omega) (la_83 l hn o1 y1 e1 (fun h2 F2 A2 M2 => ?_)))
  have W2 : Bd h (72 + n) 0 h2 := ⟨F2, A2.imp (fun c hc => ⟨_, _, _, _, _, hc⟩), M2⟩
  refine yK_0 rfl ?_
  refine ys_f 8 (lv2 := [(1, _), (0, _)]) r_162_7 rfl ?_
  refine ys_f 9 r_162_8 rfl ?_
  refine ys_f 10 r_162_9 rfl ?_
  refine ys_call (lv2 := [(0, _), (1, _)]) r_162_10 rfl rfl (by decide) (xcan_1 rfl) rfl (yP_up (show d ≤ d + 8 by omega) (la_160 (j := 0) hL (by omega) ?_))
  refine yK_v rfl ?_
  refine ys_f 14 (lv2 := [(2, _), (1, _), (0, _)]) r_162_13 rfl ?_
  refine ys_f 15 r_162_14 rfl ?_
  refine ys_f 16 (lv2 := [(3, _), (2, _), (1, _), (0, _)]) r_162_15 rfl ?_
  refine yP_lv [(0, .ref 12), (1, .ref (72 + n)), (2, .int (atV S 0)), (3, .int (nI 0))] rfl ⟨rfl, rfl, rfl, rfl, trivial⟩ (lp_16 (fun h3 W3 => ?_) 6 0 h2 (by omega) (by omega) W2)
  refine ys_f 41 r_162_40 rfl ?_
  refine ys_f 42 (lv2 := [(3, _), (0, _), (1, _), (2, _)]) r_162_41 rfl ?_
  refine yP_lv [(0, .ref 12), (1, .ref (72 + n)), (2, .int (atV S 0)), (3, .int (nI 0))] rfl ⟨rfl, rfl, rfl, rfl, trivial⟩ (lp_42 (fun h4 W4 => ?_) 4 0 h3 (by omega) (by omega) W3)
  refine ys_f 73 r_162_72 rfl ?_
  refine ys_f 74 (lv2 := [(3, _), (0, _), (1, _), (2, _)]) r_162_73 rfl ?_
  exact yP_lv [(0, .ref 12), (1, .ref (72 + n)), (2, .int (atV S 0)), (3, .int (nI 1))] rfl ⟨rfl, rfl, rfl, rfl, trivial⟩ (lp_74 hL (fun h5 W5 => k h5 _ W5) 15 1 h4 (by omega) (by omega) W4)
end FB
