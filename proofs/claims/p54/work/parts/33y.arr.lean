/-! rows of arrays where the law runs -/
section YAW
variable {S : XSc} {d mid pc : Nat} {lv : XLv} {st : List Value} {h : XH} {Q : XO → XH → Prop} {e : XI} {k0 : XK} {i : Instr} {a n j : Nat} {idx : Int32}
/-- reads; the size of a row is below 65536 -/
theorem ys_aldT (t kk : Nat) (htk : xtk kk t = true) (pc2 : Nat) (hr : xT.1 mid pc = some (i, k0)) (hi : ∀ ro st, xheap ro 72 (i, k0) st h = xgh h (xald ro 72 h kk st)) (hp : pc + 1 = pc2) (ht : xthr (i, k0) = none) (hl : xle (i, k0) = 1) (hidx : idx = nI j) {v : Nat → Int32} (ha : IA h.1 t a n v) (hj : j < n) (h32 : 72 ≤ a := by omega) (hn : n ≤ 65536 := by omega) (k : yP S d mid pc2 lv (.int (v j) :: st) h Q) : yP S d mid pc lv (.int idx :: .ref a :: st) h Q := by
  obtain ⟨F, h1, h2⟩ := ha
  exact ys_ald pc2 kk hr hi hp ht hl hidx (yarr_h h32 h1) htk hj hn (show Value.int (F j) = _ by rw [h2 j hj]) k
theorem ys_aldI (pc2 : Nat) (hr : xT.1 mid pc = some (i, k0)) (hi : ∀ ro st, xheap ro 72 (i, k0) st h = xgh h (xald ro 72 h 0 st)) (hp : pc + 1 = pc2) (ht : xthr (i, k0) = none) (hl : xle (i, k0) = 1) (hidx : idx = nI j) {v : Nat → Int32} (ha : IA h.1 0 a n v) (hj : j < n) (k : yP S d mid pc2 lv (.int (v j) :: st) h Q) (h32 : 72 ≤ a := by omega) (hn : n ≤ 65536 := by omega) : yP S d mid pc lv (.int idx :: .ref a :: st) h Q := ys_aldT 0 0 rfl pc2 hr hi hp ht hl hidx ha hj h32 hn k
theorem ys_aldC (pc2 : Nat) (hr : xT.1 mid pc = some (i, k0)) (hi : ∀ ro st, xheap ro 72 (i, k0) st h = xgh h (xald ro 72 h 3 st)) (hp : pc + 1 = pc2) (ht : xthr (i, k0) = none) (hl : xle (i, k0) = 1) (hidx : idx = nI j) {v : Nat → Int32} (ha : IA h.1 3 a n v) (hj : j < n) (k : yP S d mid pc2 lv (.int (v j) :: st) h Q) (h32 : 72 ≤ a := by omega) (hn : n ≤ 65536 := by omega) : yP S d mid pc lv (.int idx :: .ref a :: st) h Q := ys_aldT 3 3 rfl pc2 hr hi hp ht hl hidx ha hj h32 hn k
theorem ys_aldB (pc2 : Nat) (hr : xT.1 mid pc = some (i, k0)) (hi : ∀ ro st, xheap ro 72 (i, k0) st h = xgh h (xald ro 72 h 5 st)) (hp : pc + 1 = pc2) (ht : xthr (i, k0) = none) (hl : xle (i, k0) = 1) (hidx : idx = nI j) {v : Nat → Int32} (ha : IA h.1 4 a n v) (hj : j < n) (k : yP S d mid pc2 lv (.int (v j) :: st) h Q) (h32 : 72 ≤ a := by omega) (hn : n ≤ 65536 := by omega) : yP S d mid pc lv (.int idx :: .ref a :: st) h Q := ys_aldT 4 5 rfl pc2 hr hi hp ht hl hidx ha hj h32 hn k
theorem ys_aldL (pc2 : Nat) (hr : xT.1 mid pc = some (i, k0)) (hi : ∀ ro st, xheap ro 72 (i, k0) st h = xgh h (xald ro 72 h 1 st)) (hp : pc + 1 = pc2) (ht : xthr (i, k0) = none) (hl : xle (i, k0) = 1) (hidx : idx = nI j) {v : Nat → Int64} (ha : LA h.1 a n v) (hj : j < n) (k : yP S d mid pc2 lv (.long (v j) :: st) h Q) (h32 : 72 ≤ a := by omega) (hn : n ≤ 65536 := by omega) : yP S d mid pc lv (.int idx :: .ref a :: st) h Q := by
  obtain ⟨F, h1, h2⟩ := ha
  exact ys_ald pc2 1 hr hi hp ht hl hidx (yarr_h h32 h1) rfl hj hn (show Value.long (F j) = _ by rw [h2 j hj]) k
theorem ys_aldR {t : Nat} (pc2 : Nat) (hr : xT.1 mid pc = some (i, k0)) (hi : ∀ ro st, xheap ro 72 (i, k0) st h = xgh h (xald ro 72 h 4 st)) (hp : pc + 1 = pc2) (ht : xthr (i, k0) = none) (hl : xle (i, k0) = 1) (hidx : idx = nI j) {v : Nat → Nat} (ha : RA h.1 t a n v) (hj : j < n) (k : yP S d mid pc2 lv (.ref (v j) :: st) h Q) (h32 : 72 ≤ a := by omega) (hn : n ≤ 65536 := by omega) (htk : xtk 4 t = true := by rfl) : yP S d mid pc lv (.int idx :: .ref a :: st) h Q := by
  obtain ⟨F, h1, h2⟩ := ha
  exact ys_ald pc2 4 hr hi hp ht hl hidx (yarr_h h32 h1) htk hj hn (show va_rf (F j) = _ by rw [h2 j hj]; rfl) k
/-- the length -/
theorem ys_lenA (pc2 : Nat) (hr : xT.1 mid pc = some (.arraylength, k0)) (hp : pc + 1 = pc2) {t : Nat} {v : Nat → Int32} (ha : IA h.1 t a n v) (k : yP S d mid pc2 lv (.int (nI n) :: st) h Q) (h32 : 72 ≤ a := by omega) : yP S d mid pc lv (.ref a :: st) h Q := by
  obtain ⟨F, h1, h2⟩ := ha
  exact ys_len pc2 hr hp (yarr_h h32 h1) k
/-- writes: the heap gets a new name -/
theorem ys_astT (t kk : Nat) (htk : xtk kk t = true) (pc2 : Nat) (hr : xT.1 mid pc = some (i, k0)) (hi : ∀ ro st, xheap ro 72 (i, k0) st h = xast h kk st) (hp : pc + 1 = pc2) (ht : xthr (i, k0) = none) (hl : xle (i, k0) = 1) (hidx : idx = nI j) {v : Nat → Int32} (ha : IA h.1 t a n v) (hj : j < n) {x y : Int32} (hy : ∀ F, xset h kk t (n, .inl F) j (.int x) = some (n, .inl (upd F j y))) (hn : n ≤ 65536) (k : ∀ f, IA f t a n (xw v j y) → Fr h.1 f a (a + 1) → yP S d mid pc2 lv st (f, h.2) Q) : yP S d mid pc lv (.int x :: .int idx :: .ref a :: st) h Q := by
  obtain ⟨F, h1, h2⟩ := ha
  refine ys_ast pc2 kk hr hi hp ht hl hidx h1 htk hj hn (hy F) (k _ ⟨_, xup_s, fun q hq => ?_⟩ (Fr.up (Nat.le_refl _) (Nat.lt_succ_self _)))
  unfold xw upd
  by_cases z : q = j
  · rw [if_pos z, if_pos z]
  · rw [if_neg z, if_neg z]; exact h2 q hq
theorem ys_astI (pc2 : Nat) (hr : xT.1 mid pc = some (i, k0)) (hi : ∀ ro st, xheap ro 72 (i, k0) st h = xast h 0 st) (hp : pc + 1 = pc2) (ht : xthr (i, k0) = none) (hl : xle (i, k0) = 1) (hidx : idx = nI j) {v : Nat → Int32} (ha : IA h.1 0 a n v) (hj : j < n) {x : Int32} (k : ∀ f, IA f 0 a n (xw v j x) → Fr h.1 f a (a + 1) → yP S d mid pc2 lv st (f, h.2) Q) (hn : n ≤ 65536 := by omega) : yP S d mid pc lv (.int x :: .int idx :: .ref a :: st) h Q := ys_astT 0 0 rfl pc2 hr hi hp ht hl hidx ha hj (fun _ => rfl) hn k
theorem ys_astC (pc2 : Nat) (hr : xT.1 mid pc = some (i, k0)) (hi : ∀ ro st, xheap ro 72 (i, k0) st h = xast h 3 st) (hp : pc + 1 = pc2) (ht : xthr (i, k0) = none) (hl : xle (i, k0) = 1) (hidx : idx = nI j) {v : Nat → Int32} (ha : IA h.1 3 a n v) (hj : j < n) {x y : Int32} (hy : vp_nar .char x = y) (k : ∀ f, IA f 3 a n (xw v j y) → Fr h.1 f a (a + 1) → yP S d mid pc2 lv st (f, h.2) Q) (hn : n ≤ 65536 := by omega) : yP S d mid pc lv (.int x :: .int idx :: .ref a :: st) h Q := ys_astT 3 3 rfl pc2 hr hi hp ht hl hidx ha hj (fun _ => by rw [← hy]; rfl) hn k
theorem ys_astB (pc2 : Nat) (hr : xT.1 mid pc = some (i, k0)) (hi : ∀ ro st, xheap ro 72 (i, k0) st h = xast h 5 st) (hp : pc + 1 = pc2) (ht : xthr (i, k0) = none) (hl : xle (i, k0) = 1) (hidx : idx = nI j) {v : Nat → Int32} (ha : IA h.1 4 a n v) (hj : j < n) {x y : Int32} (hy : vp_nar .byte x = y) (k : ∀ f, IA f 4 a n (xw v j y) → Fr h.1 f a (a + 1) → yP S d mid pc2 lv st (f, h.2) Q) (hn : n ≤ 65536 := by omega) : yP S d mid pc lv (.int x :: .int idx :: .ref a :: st) h Q := ys_astT 4 5 rfl pc2 hr hi hp ht hl hidx ha hj (fun _ => by rw [← hy]; rfl) hn k
theorem ys_astL (pc2 : Nat) (hr : xT.1 mid pc = some (i, k0)) (hi : ∀ ro st, xheap ro 72 (i, k0) st h = xast h 1 st) (hp : pc + 1 = pc2) (ht : xthr (i, k0) = none) (hl : xle (i, k0) = 1) (hidx : idx = nI j) {v : Nat → Int64} (ha : LA h.1 a n v) (hj : j < n) {x : Int64} (k : ∀ f, LA f a n (xw v j x) → Fr h.1 f a (a + 1) → yP S d mid pc2 lv st (f, h.2) Q) (hn : n ≤ 65536 := by omega) : yP S d mid pc lv (.long x :: .int idx :: .ref a :: st) h Q := by
  obtain ⟨F, h1, h2⟩ := ha
  refine ys_ast pc2 1 hr hi hp ht hl hidx h1 rfl hj hn rfl (k _ ⟨_, xup_s, fun q hq => ?_⟩ (Fr.up (Nat.le_refl _) (Nat.lt_succ_self _)))
  unfold xw vp_updL
  by_cases z : q = j
  · rw [if_pos z, if_pos z]
  · rw [if_neg z, if_neg z]; exact h2 q hq
theorem ys_astR {t : Nat} (pc2 : Nat) (hr : xT.1 mid pc = some (i, k0)) (hi : ∀ ro st, xheap ro 72 (i, k0) st h = xast h 4 st) (hp : pc + 1 = pc2) (ht : xthr (i, k0) = none) (hl : xle (i, k0) = 1) (hidx : idx = nI j) {v : Nat → Nat} (ha : RA h.1 t a n v) (hj : j < n) {b : Nat} {q : Nat × List Value} (hb : h.1 b = some (.inr q)) (hq : Nat.beq t (10 + q.1) = true) (k : ∀ f, RA f t a n (xw v j b) → Fr h.1 f a (a + 1) → yP S d mid pc2 lv st (f, h.2) Q) (hn : n ≤ 65536 := by omega) (htk : xtk 4 t = true := by rfl) : yP S d mid pc lv (.ref b :: .int idx :: .ref a :: st) h Q := by
  obtain ⟨F, h1, h2⟩ := ha
  refine ys_ast pc2 4 hr hi hp ht hl hidx h1 htk hj hn (y := (n, .inr (.inr (.inr (.inr (va_up F j (some b))))))) ?_ (k _ ⟨_, xup_s, fun q hq => ?_⟩ (Fr.up (Nat.le_refl _) (Nat.lt_succ_self _)))
  · show (match h.1 b with
      | some (.inr q) => bif Nat.beq t (10 + q.1) then some ((n, Sum.inr (Sum.inr (Sum.inr (Sum.inr (va_up F j (some b)))))) : vp_A) else none
      | _ => none) = _
    rw [hb]
    simp only [hq, cond_true]
  · unfold xw va_up
    by_cases z : q = j
    · rw [if_pos z, if_pos z]
    · rw [if_neg z, if_neg z]; exact h2 q hq
/-- a field is written; the heap gets a new name -/
theorem ys_putC (pc2 : Nat) {i ci kk : Nat} {vs : List Value} {ts : List Nat} (hr : xT.1 mid pc = some (.putfield i, ((ci, kk), (vs, ts)))) (hp : pc + 3 = pc2) {fs : List Value} {v : Value} (hf : h.1 a = some (.inr (ci, fs))) (hv : xfit (ts.headD 9) v = true) (hk : Nat.blt kk fs.length = true) (k : ∀ f, f a = some (.inr (ci, fs.set kk v)) → Fr h.1 f a (a + 1) → yP S d mid pc2 lv st (f, h.2) Q) : yP S d mid pc lv (v :: .ref a :: st) h Q :=
  ys_put pc2 hr hp hf hv hk (k _ xup_s (Fr.up (Nat.le_refl _) (Nat.lt_succ_self _)))
theorem ys_idiv (pc2 : Nat) {st : List Value} (hr : xT.1 mid pc = some (.idiv, k0)) (hp : pc + 1 = pc2) {x y : Int32} (hy : y ≠ 0) (k : yP S d mid pc2 lv (.int (x / y) :: st) h Q) : yP S d mid pc lv (.int y :: .int x :: st) h Q := by
  subst hp
  refine ys_f (pc + 1) hr ?_ k
  show xgoS (pc + 1) lv (if y = 0 then none else some (.int (x / y) :: st)) = _
  rw [if_neg hy]
  rfl
theorem ys_irem (pc2 : Nat) {st : List Value} (hr : xT.1 mid pc = some (.irem, k0)) (hp : pc + 1 = pc2) {x y : Int32} (hy : y ≠ 0) (k : yP S d mid pc2 lv (.int (x - x / y * y) :: st) h Q) : yP S d mid pc lv (.int y :: .int x :: st) h Q := by
  subst hp
  refine ys_f (pc + 1) hr ?_ k
  show xgoS (pc + 1) lv (if y = 0 then none else some (.int (x - x / y * y) :: st)) = _
  rw [if_neg hy]
  rfl
end YAW
