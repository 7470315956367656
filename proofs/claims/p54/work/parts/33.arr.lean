/-! numbers and rows of arrays, for walks of the second kind -/
theorem nI_k (n : Nat) : (OfNat.ofNat n : Int32) = nI n := rfl
theorem nI_addE {x y : Int32} {a b : Nat} (h : x = nI a) (k : y = nI b) : x + y = nI (a + b) := by rw [h, k]; exact nI_add a b
theorem nI_subE {x y : Int32} {a b : Nat} (h : x = nI a) (k : y = nI b) (hb : b ≤ a) : x - y = nI (a - b) := by
  rw [h, k]
  have e : nI a = nI (a - b) + nI b := by rw [nI_add]; congr 1; omega
  rw [e]
  exact Int32.add_sub_cancel _ _
theorem nI_mulE {x y : Int32} {a b : Nat} (h : x = nI a) (k : y = nI b) : x * y = nI (a * b) := by rw [h, k]; exact (Int32.ofNat_mul a b).symm
theorem nI_decE {x : Int32} {a : Nat} (h : x = nI a) (k : Nat) (hb : 1 ≤ a) (hk : k = 1 := by rfl) : x + (-1) = nI (a - k) := by
  subst hk
  rw [h]
  have e : nI a = nI (a - 1) + nI 1 := by rw [nI_add]; congr 1; omega
  rw [e]
  show nI (a - 1) + 1 + -1 = _
  rw [Int32.add_assoc]
  exact Int32.add_zero _
theorem nI_eqN {x y : Int32} {a b : Nat} (h : x = nI a) (k : y = nI b) (ha : a < 2 ^ 31) (hb : b < 2 ^ 31) : x = y ↔ a = b := by rw [h, k]; exact nI_eq ha hb
theorem nI_ltN {x y : Int32} {a b : Nat} (h : x = nI a) (k : y = nI b) (ha : a < 2 ^ 31) (hb : b < 2 ^ 31) : x < y ↔ a < b := by rw [h, k]; exact nI_ltI ha hb
theorem nI_leN {x y : Int32} {a b : Nat} (h : x = nI a) (k : y = nI b) (ha : a < 2 ^ 31) (hb : b < 2 ^ 31) : x ≤ y ↔ a ≤ b := by rw [h, k]; exact nI_leI ha hb
theorem nI_m1 {x : Int32} {a : Nat} (h : x = nI a) (ha : a < 2 ^ 31) : ¬ x = -1 := fun e => by
  rw [h] at e
  have h2 := congrArg Int32.toInt e
  rw [nI_toInt ha, show (-1 : Int32).toInt = -1 from rfl] at h2
  omega
def xw {α : Type} (f : Nat → α) (k : Nat) (x : α) : Nat → α := fun j => if j = k then x else f j
theorem xw_s {α : Type} {f : Nat → α} {k : Nat} {x : α} : xw f k x k = x := if_pos rfl
theorem xw_n {α : Type} {f : Nat → α} {k j : Nat} {x : α} (h : j ≠ k) : xw f k x j = f j := if_neg h
/-- nothing but what lies from lo to hi has changed -/
def Fr (f g : Nat → Option XE) (lo hi : Nat) : Prop := ∀ c, c < lo ∨ hi ≤ c → g c = f c
theorem Fr.rf {f : Nat → Option XE} {lo hi : Nat} : Fr f f lo hi := fun _ _ => rfl
theorem Fr.tr {f g k : Nat → Option XE} {lo hi : Nat} (h1 : Fr f g lo hi) (h2 : Fr g k lo hi) : Fr f k lo hi := fun c hc => (h2 c hc).trans (h1 c hc)
theorem Fr.wd {f g : Nat → Option XE} {lo hi a b : Nat} (h : Fr f g lo hi) (h1 : a ≤ lo) (h2 : hi ≤ b) : Fr f g a b := fun c hc => h c (by omega)
theorem Fr.up {f : Nat → Option XE} {a lo hi : Nat} {x : XE} (h1 : lo ≤ a) (h2 : a < hi) : Fr f (xup f a x) lo hi := fun c hc => xup_n (by omega)
theorem Fr.up' {f g : Nat → Option XE} {a lo hi : Nat} {x : XE} (h : Fr f g lo hi) (h1 : lo ≤ a) (h2 : a < hi) : Fr f (xup g a x) lo hi := h.tr (Fr.up h1 h2)
/-- ints (t = 0), chars (3), bytes (4) in a row -/
def IA (f : Nat → Option XE) (t a n : Nat) (v : Nat → Int32) : Prop := ∃ F, f a = some (.inl (t, (n, .inl F))) ∧ ∀ j, j < n → F j = v j
def LA (f : Nat → Option XE) (a n : Nat) (v : Nat → Int64) : Prop := ∃ F, f a = some (.inl (1, (n, .inr (.inl F)))) ∧ ∀ j, j < n → F j = v j
def RA (f : Nat → Option XE) (t a n : Nat) (v : Nat → Nat) : Prop := ∃ F : Nat → Option Nat, f a = some (.inl (t, (n, .inr (.inr (.inr (.inr F)))))) ∧ ∀ j, j < n → F j = some (v j)
section XAR
variable {f g : Nat → Option XE} {t a n : Nat}
theorem IA.fr {v : Nat → Int32} (h : IA f t a n v) (e : g a = f a) : IA g t a n v := by obtain ⟨F, h1, h2⟩ := h; exact ⟨F, e.trans h1, h2⟩
theorem LA.fr {v : Nat → Int64} (h : LA f a n v) (e : g a = f a) : LA g a n v := by obtain ⟨F, h1, h2⟩ := h; exact ⟨F, e.trans h1, h2⟩
theorem RA.fr {v : Nat → Nat} (h : RA f t a n v) (e : g a = f a) : RA g t a n v := by obtain ⟨F, h1, h2⟩ := h; exact ⟨F, e.trans h1, h2⟩
theorem IA.ex {v w : Nat → Int32} (h : IA f t a n v) (e : ∀ j, j < n → v j = w j) : IA f t a n w := by obtain ⟨F, h1, h2⟩ := h; exact ⟨F, h1, fun j hj => (h2 j hj).trans (e j hj)⟩
theorem LA.ex {v w : Nat → Int64} (h : LA f a n v) (e : ∀ j, j < n → v j = w j) : LA f a n w := by obtain ⟨F, h1, h2⟩ := h; exact ⟨F, h1, fun j hj => (h2 j hj).trans (e j hj)⟩
theorem RA.ex {v w : Nat → Nat} (h : RA f t a n v) (e : ∀ j, j < n → v j = w j) : RA f t a n w := by obtain ⟨F, h1, h2⟩ := h; exact ⟨F, h1, fun j hj => by rw [h2 j hj, e j hj]⟩
end XAR
section XAW
variable {S : XSc} {d mid pc : Nat} {lv : XLv} {st : List Value} {h : XH} {Q : XO → XH → Prop} {e : XI} {k0 : XK} {i : Instr} {a n j : Nat} {idx : Int32}
/-- reads; the size of a row is below 65536 -/
theorem xs_aldT (t kk : Nat) (htk : xtk kk t = true) (pc2 : Nat) (hr : xT.1 mid pc = some (i, k0)) (hi : ∀ ro st, xheap ro 32 (i, k0) st h = xgh h (xald ro 32 h kk st)) (hp : pc + 1 = pc2) (ht : xthr (i, k0) = none) (hl : xle (i, k0) = 1) (hidx : idx = nI j) {v : Nat → Int32} (ha : IA h.1 t a n v) (hj : j < n) (h32 : 32 ≤ a := by omega) (hn : n ≤ 65536 := by omega) (k : xP S d mid pc2 lv (.int (v j) :: st) h Q) : xP S d mid pc lv (.int idx :: .ref a :: st) h Q := by
  obtain ⟨F, h1, h2⟩ := ha
  exact xs_ald pc2 kk hr hi hp ht hl hidx (xarr_h h32 h1) htk hj hn (show Value.int (F j) = _ by rw [h2 j hj]) k
theorem xs_aldI (pc2 : Nat) (hr : xT.1 mid pc = some (i, k0)) (hi : ∀ ro st, xheap ro 32 (i, k0) st h = xgh h (xald ro 32 h 0 st)) (hp : pc + 1 = pc2) (ht : xthr (i, k0) = none) (hl : xle (i, k0) = 1) (hidx : idx = nI j) {v : Nat → Int32} (ha : IA h.1 0 a n v) (hj : j < n) (k : xP S d mid pc2 lv (.int (v j) :: st) h Q) (h32 : 32 ≤ a := by omega) (hn : n ≤ 65536 := by omega) : xP S d mid pc lv (.int idx :: .ref a :: st) h Q := xs_aldT 0 0 rfl pc2 hr hi hp ht hl hidx ha hj h32 hn k
theorem xs_aldC (pc2 : Nat) (hr : xT.1 mid pc = some (i, k0)) (hi : ∀ ro st, xheap ro 32 (i, k0) st h = xgh h (xald ro 32 h 3 st)) (hp : pc + 1 = pc2) (ht : xthr (i, k0) = none) (hl : xle (i, k0) = 1) (hidx : idx = nI j) {v : Nat → Int32} (ha : IA h.1 3 a n v) (hj : j < n) (k : xP S d mid pc2 lv (.int (v j) :: st) h Q) (h32 : 32 ≤ a := by omega) (hn : n ≤ 65536 := by omega) : xP S d mid pc lv (.int idx :: .ref a :: st) h Q := xs_aldT 3 3 rfl pc2 hr hi hp ht hl hidx ha hj h32 hn k
theorem xs_aldB (pc2 : Nat) (hr : xT.1 mid pc = some (i, k0)) (hi : ∀ ro st, xheap ro 32 (i, k0) st h = xgh h (xald ro 32 h 5 st)) (hp : pc + 1 = pc2) (ht : xthr (i, k0) = none) (hl : xle (i, k0) = 1) (hidx : idx = nI j) {v : Nat → Int32} (ha : IA h.1 4 a n v) (hj : j < n) (k : xP S d mid pc2 lv (.int (v j) :: st) h Q) (h32 : 32 ≤ a := by omega) (hn : n ≤ 65536 := by omega) : xP S d mid pc lv (.int idx :: .ref a :: st) h Q := xs_aldT 4 5 rfl pc2 hr hi hp ht hl hidx ha hj h32 hn k
theorem xs_aldL (pc2 : Nat) (hr : xT.1 mid pc = some (i, k0)) (hi : ∀ ro st, xheap ro 32 (i, k0) st h = xgh h (xald ro 32 h 1 st)) (hp : pc + 1 = pc2) (ht : xthr (i, k0) = none) (hl : xle (i, k0) = 1) (hidx : idx = nI j) {v : Nat → Int64} (ha : LA h.1 a n v) (hj : j < n) (k : xP S d mid pc2 lv (.long (v j) :: st) h Q) (h32 : 32 ≤ a := by omega) (hn : n ≤ 65536 := by omega) : xP S d mid pc lv (.int idx :: .ref a :: st) h Q := by
  obtain ⟨F, h1, h2⟩ := ha
  exact xs_ald pc2 1 hr hi hp ht hl hidx (xarr_h h32 h1) rfl hj hn (show Value.long (F j) = _ by rw [h2 j hj]) k
theorem xs_aldR {t : Nat} (pc2 : Nat) (hr : xT.1 mid pc = some (i, k0)) (hi : ∀ ro st, xheap ro 32 (i, k0) st h = xgh h (xald ro 32 h 4 st)) (hp : pc + 1 = pc2) (ht : xthr (i, k0) = none) (hl : xle (i, k0) = 1) (hidx : idx = nI j) {v : Nat → Nat} (ha : RA h.1 t a n v) (hj : j < n) (k : xP S d mid pc2 lv (.ref (v j) :: st) h Q) (h32 : 32 ≤ a := by omega) (hn : n ≤ 65536 := by omega) (htk : xtk 4 t = true := by rfl) : xP S d mid pc lv (.int idx :: .ref a :: st) h Q := by
  obtain ⟨F, h1, h2⟩ := ha
  exact xs_ald pc2 4 hr hi hp ht hl hidx (xarr_h h32 h1) htk hj hn (show va_rf (F j) = _ by rw [h2 j hj]; rfl) k
/-- the length -/
theorem xs_lenA (pc2 : Nat) (hr : xT.1 mid pc = some (.arraylength, k0)) (hp : pc + 1 = pc2) {t : Nat} {v : Nat → Int32} (ha : IA h.1 t a n v) (k : xP S d mid pc2 lv (.int (nI n) :: st) h Q) (h32 : 32 ≤ a := by omega) : xP S d mid pc lv (.ref a :: st) h Q := by
  obtain ⟨F, h1, h2⟩ := ha
  exact xs_len pc2 hr hp (xarr_h h32 h1) k
/-- writes: the heap gets a new name -/
theorem xs_astT (t kk : Nat) (htk : xtk kk t = true) (pc2 : Nat) (hr : xT.1 mid pc = some (i, k0)) (hi : ∀ ro st, xheap ro 32 (i, k0) st h = xast h kk st) (hp : pc + 1 = pc2) (ht : xthr (i, k0) = none) (hl : xle (i, k0) = 1) (hidx : idx = nI j) {v : Nat → Int32} (ha : IA h.1 t a n v) (hj : j < n) {x y : Int32} (hy : ∀ F, xset h kk t (n, .inl F) j (.int x) = some (n, .inl (upd F j y))) (hn : n ≤ 65536) (k : ∀ f, IA f t a n (xw v j y) → Fr h.1 f a (a + 1) → xP S d mid pc2 lv st (f, h.2) Q) : xP S d mid pc lv (.int x :: .int idx :: .ref a :: st) h Q := by
  obtain ⟨F, h1, h2⟩ := ha
  refine xs_ast pc2 kk hr hi hp ht hl hidx h1 htk hj hn (hy F) (k _ ⟨_, xup_s, fun q hq => ?_⟩ (Fr.up (Nat.le_refl _) (Nat.lt_succ_self _)))
  unfold xw upd
  by_cases z : q = j
  · rw [if_pos z, if_pos z]
  · rw [if_neg z, if_neg z]; exact h2 q hq
theorem xs_astI (pc2 : Nat) (hr : xT.1 mid pc = some (i, k0)) (hi : ∀ ro st, xheap ro 32 (i, k0) st h = xast h 0 st) (hp : pc + 1 = pc2) (ht : xthr (i, k0) = none) (hl : xle (i, k0) = 1) (hidx : idx = nI j) {v : Nat → Int32} (ha : IA h.1 0 a n v) (hj : j < n) {x : Int32} (k : ∀ f, IA f 0 a n (xw v j x) → Fr h.1 f a (a + 1) → xP S d mid pc2 lv st (f, h.2) Q) (hn : n ≤ 65536 := by omega) : xP S d mid pc lv (.int x :: .int idx :: .ref a :: st) h Q := xs_astT 0 0 rfl pc2 hr hi hp ht hl hidx ha hj (fun _ => rfl) hn k
theorem xs_astC (pc2 : Nat) (hr : xT.1 mid pc = some (i, k0)) (hi : ∀ ro st, xheap ro 32 (i, k0) st h = xast h 3 st) (hp : pc + 1 = pc2) (ht : xthr (i, k0) = none) (hl : xle (i, k0) = 1) (hidx : idx = nI j) {v : Nat → Int32} (ha : IA h.1 3 a n v) (hj : j < n) {x y : Int32} (hy : vp_nar .char x = y) (k : ∀ f, IA f 3 a n (xw v j y) → Fr h.1 f a (a + 1) → xP S d mid pc2 lv st (f, h.2) Q) (hn : n ≤ 65536 := by omega) : xP S d mid pc lv (.int x :: .int idx :: .ref a :: st) h Q := xs_astT 3 3 rfl pc2 hr hi hp ht hl hidx ha hj (fun _ => by rw [← hy]; rfl) hn k
theorem xs_astB (pc2 : Nat) (hr : xT.1 mid pc = some (i, k0)) (hi : ∀ ro st, xheap ro 32 (i, k0) st h = xast h 5 st) (hp : pc + 1 = pc2) (ht : xthr (i, k0) = none) (hl : xle (i, k0) = 1) (hidx : idx = nI j) {v : Nat → Int32} (ha : IA h.1 4 a n v) (hj : j < n) {x y : Int32} (hy : vp_nar .byte x = y) (k : ∀ f, IA f 4 a n (xw v j y) → Fr h.1 f a (a + 1) → xP S d mid pc2 lv st (f, h.2) Q) (hn : n ≤ 65536 := by omega) : xP S d mid pc lv (.int x :: .int idx :: .ref a :: st) h Q := xs_astT 4 5 rfl pc2 hr hi hp ht hl hidx ha hj (fun _ => by rw [← hy]; rfl) hn k
theorem xs_astL (pc2 : Nat) (hr : xT.1 mid pc = some (i, k0)) (hi : ∀ ro st, xheap ro 32 (i, k0) st h = xast h 1 st) (hp : pc + 1 = pc2) (ht : xthr (i, k0) = none) (hl : xle (i, k0) = 1) (hidx : idx = nI j) {v : Nat → Int64} (ha : LA h.1 a n v) (hj : j < n) {x : Int64} (k : ∀ f, LA f a n (xw v j x) → Fr h.1 f a (a + 1) → xP S d mid pc2 lv st (f, h.2) Q) (hn : n ≤ 65536 := by omega) : xP S d mid pc lv (.long x :: .int idx :: .ref a :: st) h Q := by
  obtain ⟨F, h1, h2⟩ := ha
  refine xs_ast pc2 1 hr hi hp ht hl hidx h1 rfl hj hn rfl (k _ ⟨_, xup_s, fun q hq => ?_⟩ (Fr.up (Nat.le_refl _) (Nat.lt_succ_self _)))
  unfold xw vp_updL
  by_cases z : q = j
  · rw [if_pos z, if_pos z]
  · rw [if_neg z, if_neg z]; exact h2 q hq
theorem xs_astR {t : Nat} (pc2 : Nat) (hr : xT.1 mid pc = some (i, k0)) (hi : ∀ ro st, xheap ro 32 (i, k0) st h = xast h 4 st) (hp : pc + 1 = pc2) (ht : xthr (i, k0) = none) (hl : xle (i, k0) = 1) (hidx : idx = nI j) {v : Nat → Nat} (ha : RA h.1 t a n v) (hj : j < n) {b : Nat} {q : Nat × List Value} (hb : h.1 b = some (.inr q)) (hq : Nat.beq t (10 + q.1) = true) (k : ∀ f, RA f t a n (xw v j b) → Fr h.1 f a (a + 1) → xP S d mid pc2 lv st (f, h.2) Q) (hn : n ≤ 65536 := by omega) (htk : xtk 4 t = true := by rfl) : xP S d mid pc lv (.ref b :: .int idx :: .ref a :: st) h Q := by
  obtain ⟨F, h1, h2⟩ := ha
  refine xs_ast pc2 4 hr hi hp ht hl hidx h1 htk hj hn (y := (n, .inr (.inr (.inr (.inr (va_up F j (some b))))))) ?_ (k _ ⟨_, xup_s, fun q hq => ?_⟩ (Fr.up (Nat.le_refl _) (Nat.lt_succ_self _)))
  · show (match h.1 b with
      | some (.inr q) => bif Nat.beq t (10 + q.1) then some ((n, Sum.inr (Sum.inr (Sum.inr (Sum.inr (va_up F j (some b)))))) : vp_A) else none
      | _ => none) = _
    rw [hb]
    simp only [hq, cond_true]
  · unfold xw va_up
    by_cases z : q = j
    · rw [if_pos z, if_pos z]
    · rw [if_neg z, if_neg z]; exact h2 q hq
/-- a field is written; the heap gets a new name -/
theorem xs_putC (pc2 : Nat) {i ci kk : Nat} {vs : List Value} {ts : List Nat} (hr : xT.1 mid pc = some (.putfield i, ((ci, kk), (vs, ts)))) (hp : pc + 3 = pc2) {fs : List Value} {v : Value} (hf : h.1 a = some (.inr (ci, fs))) (hv : xfit (ts.headD 9) v = true) (hk : Nat.blt kk fs.length = true) (k : ∀ f, f a = some (.inr (ci, fs.set kk v)) → Fr h.1 f a (a + 1) → xP S d mid pc2 lv st (f, h.2) Q) : xP S d mid pc lv (v :: .ref a :: st) h Q :=
  xs_put pc2 hr hp hf hv hk (k _ xup_s (Fr.up (Nat.le_refl _) (Nat.lt_succ_self _)))
theorem xs_idiv (pc2 : Nat) {st : List Value} (hr : xT.1 mid pc = some (.idiv, k0)) (hp : pc + 1 = pc2) {x y : Int32} (hy : y ≠ 0) (k : xP S d mid pc2 lv (.int (x / y) :: st) h Q) : xP S d mid pc lv (.int y :: .int x :: st) h Q := by
  subst hp
  refine xs_f (pc + 1) hr ?_ k
  show xgoS (pc + 1) lv (if y = 0 then none else some (.int (x / y) :: st)) = _
  rw [if_neg hy]
  rfl
theorem xs_irem (pc2 : Nat) {st : List Value} (hr : xT.1 mid pc = some (.irem, k0)) (hp : pc + 1 = pc2) {x y : Int32} (hy : y ≠ 0) (k : xP S d mid pc2 lv (.int (x - x / y * y) :: st) h Q) : xP S d mid pc lv (.int y :: .int x :: st) h Q := by
  subst hp
  refine xs_f (pc + 1) hr ?_ k
  show xgoS (pc + 1) lv (if y = 0 then none else some (.int (x - x / y * y) :: st)) = _
  rw [if_neg hy]
  rfl
end XAW
